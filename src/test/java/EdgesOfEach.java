/** Of Terms III the rests and the swimmers, and promises 46 to 50: each for himself. */
final class EdgesOfEach {
    private EdgesOfEach() {
    }

    static void look() {
        restOfTerms();
        swimOfTerms();
        evenOfTerms();
        rests();
        restAt();
        swim();
        evens();
        even();
    }

    private static ColdPlunge of(int warm, int chill, String bathers, String ties) {
        return Check.of(Texts.of(Texts.head(warm, chill, 0, 0), bathers, ties));
    }

    private static ColdPlunge any() {
        return of(0, 0, "p0", "");
    }

    private static void resting(ColdPlunge x, int... sets) {
        Check.refused(x, "rests()", x.rests(), sets.length, 0);
        for (int i = 0; i < sets.length; i++) {
            Check.refused(x, "restAt(" + i + ")", x.restAt(i), sets[i], 0);
        }
        Check.refused(x, "restAt(" + sets.length + ")", x.restAt(sets.length), -1, 1);
    }

    private static void restOfTerms() {
        Sentences.ofTerms("III", "REST: a SNUG COMPANY that nobody else would BEAR, were he in it too.");
        // b has 5 of 6 everywhere
        resting(of(5, 0, "p5 p6", ""), 1);
        resting(of(5, 0, "p5 p5", ""), 3);
        // nobody bears it alone: nobody is one
        resting(of(5, 0, "p6 p6", ""), 0);
        // both bear it together, neither alone
        resting(of(5, 0, "p6 p6", "ab1"), 0, 3);
        // b would bear it with a, though a wouldn't: a alone is none
        resting(of(5, 1, "p5 p4", ""), 2);
        // all are in: there is nobody else
        resting(of(0, 0, "p0 p0 p0 p0 p0 p0", ""), 63);
        // a would join b, but b wouldn't join a
        resting(of(5, 0, "p4 p5", "ab-1"), 1);
        // there may be none: c would join nobody, a would join c, b with 13 of 13 would join both, and a would leave all
        resting(of(11, 1, "p18 p13 p8", "ac7 bc-4"));
        // b has 13 of 14
        resting(of(11, 1, "p18 p14 p8", "ac7 bc-4"), 5);
    }

    private static void swimOfTerms() {
        Sentences.ofTerms("III", "TWO swim near or apart, longing so much: both near: longing each; one near alone: he loses 2, the other one has 1; both apart: 2 each.");
        for (int longing = 0; longing <= 9; longing++) {
            ColdPlunge x = any();
            Check.due("both near", x.swim(longing, true, true, false), longing);
            Check.due("both near, the other one", x.swim(longing, true, true, true), longing);
            Check.due("near alone", x.swim(longing, true, false, false), -2);
            Check.due("the other one then", x.swim(longing, true, false, true), 1);
            Check.due("apart alone", x.swim(longing, false, true, false), 1);
            Check.due("the other one then", x.swim(longing, false, true, true), -2);
            Check.due("both apart", x.swim(longing, false, false, false), 2);
            Check.due("both apart, the other one", x.swim(longing, false, false, true), 2);
            Check.due("trouble()", x.trouble(), 0);
        }
    }

    private static void evenOfTerms() {
        Sentences.ofTerms("III", "EVEN: a pair by which neither could have more alone.");
        // both apart: near alone is less. Both near: apart alone has 1, which is more than 0 and no more than 1
        Check.due("longing 0", any().evens(0), 1);
        Check.due("longing 1", any().evens(1), 2);
        Check.due("longing 2", any().evens(2), 2);
        Check.due("longing 9", any().evens(9), 2);
    }

    private static void rests() {
        Sentences.ofPromise(46, "How many RESTS.");
        Check.due("one of one", any().rests(), 1);
        Check.due("each of six alone", of(1, 1, "p1 p1 p1 p1 p1 p1", "").rests(), 6);
        Check.due("each two of six", of(2, 1, "p1 p1 p1 p1 p1 p1", "").rests(), 15);
        ColdPlunge x = of(5, 1, "p6 p6 p0", "ac1 bc1");
        // c alone is none: a would bear it; ac, bc: 6, all: 6
        resting(x, 7);
        x.come(2);
        resting(x, 7);

        Sentences.ofPromise(46, "NONE: 1 (no PLUNGE).");
        Edge.withoutPlunge(y -> y.rests(), -1);
    }

    private static void restAt() {
        Sentences.ofPromise(47, "The i-th, by bits.");
        resting(of(1, 1, "p1 p1 p1 p1 p1 p1", ""), 1, 2, 4, 8, 16, 32);
        resting(of(2, 1, "p1 p1 p1 p1", ""), 3, 5, 6, 9, 10, 12);

        Sentences.ofPromise(47, "NONE: 1 (i, too).");
        Edge.withoutPlunge(x -> x.restAt(0), -1);
        Edge.bounded(() -> of(1, 1, "p1 p1 p1 p1 p1 p1", ""), (x, i) -> x.restAt(i), 0, 5, -1, 1);
        Edge.bounded(EdgesOfEach::any, (x, i) -> x.restAt(i), 0, 0, -1, 1);
        for (int i : new int[] {-1, 0, 1}) {
            Edge.refused(() -> of(11, 1, "p18 p13 p8", "ac7 bc-4"), "restAt(" + i + ") of none", x -> x.restAt(i), -1, 1);
        }
    }

    private static void swim() {
        Sentences.ofPromise(48, "What the one (or other, the other one) has, if each swims near or apart, and longing is so much (0 .. 9).");
        Check.due("longing 0", any().swim(0, true, true, false), 0);
        Check.due("longing 9", any().swim(9, true, true, true), 9);
        Check.due("the one is near", any().swim(5, true, false, false), -2);
        Check.due("the other one is", any().swim(5, false, true, false), 1);

        Sentences.ofPromise(48, "-100: 1 (no PLUNGE);");
        for (int turn = 0; turn < 8; turn++) {
            boolean one = (turn & 4) != 0;
            boolean other = (turn & 2) != 0;
            boolean ofOther = (turn & 1) != 0;
            Edge.withoutPlunge(x -> x.swim(3, one, other, ofOther), -100);
            Edge.refused(ColdPlunge::new, "swim(10)", x -> x.swim(10, one, other, ofOther), -100, 1);
        }

        Sentences.ofPromise(48, "2.");
        for (int turn = 0; turn < 8; turn++) {
            boolean one = (turn & 4) != 0;
            boolean other = (turn & 2) != 0;
            boolean ofOther = (turn & 1) != 0;
            Edge.bounded(Edge::four, (x, longing) -> x.swim(longing, one, other, ofOther), 0, 9, -100, 2);
        }
    }

    private static void evens() {
        Sentences.ofPromise(49, "How many are EVEN.");
        for (int longing = 0; longing <= 9; longing++) {
            Check.due("evens(" + longing + ")", any().evens(longing), longing == 0 ? 1 : 2);
        }

        Sentences.ofPromise(49, "NONE: 1 (no PLUNGE);");
        Edge.withoutPlunge(x -> x.evens(0), -1);
        Edge.refused(ColdPlunge::new, "evens(-1)", x -> x.evens(-1), -1, 1);

        Sentences.ofPromise(49, "2.");
        Edge.bounded(Edge::four, (x, longing) -> x.evens(longing), 0, 9, -1, 2);
    }

    private static void even() {
        Sentences.ofPromise(50, "The first (apart ahead, the one's first): 10 if the one swims near, and 1 if the other one does;");
        for (int longing = 0; longing <= 9; longing++) {
            Check.due("both apart is even always", any().even(longing), 0);
        }

        Sentences.ofPromise(50, "-2.");
        // both apart is even by every longing, so that there is always one
        for (int longing = 0; longing <= 9; longing++) {
            Check.due("there is one", any().even(longing) != -2 && any().evens(longing) > 0, true);
        }

        Sentences.ofPromise(50, "NONE: likewise.");
        Edge.withoutPlunge(x -> x.even(0), -1);
        Edge.refused(ColdPlunge::new, "even(10)", x -> x.even(10), -1, 1);
        Edge.bounded(Edge::four, (x, longing) -> x.even(longing), 0, 9, -1, 2);
    }
}
