/** Of Terms III what fits, what to ask and the chills, and promises 38 to 45: what was felt. */
final class EdgesOfFelt {
    /** By chill 1 the four unsure pairs bring 2, 2, 3 and 5 more than strangers; abc have 7 as strangers. */
    private static final String UNSURE = "ab?1 ac?1 bc?2 ad?4";

    private EdgesOfFelt() {
    }

    static void look() {
        fitsOfTerms();
        askOfTerms();
        chillsOfTerms();
        fits();
        fitAt();
        could();
        surely();
        ask();
        askLeaves();
        chills();
        judge();
    }

    private static ColdPlunge of(int warm, int chill, String bathers, String ties, String felt) {
        return Check.of(Texts.of(Texts.head(warm, chill, 0, 0), bathers, ties, felt));
    }

    private static ColdPlunge unsure(String felt) {
        return of(10, 1, "p0 p0 p0 p0", UNSURE, felt);
    }

    private static void fitting(ColdPlunge x, int... sets) {
        Check.refused(x, "fits()", x.fits(), sets.length, 0);
        for (int i = 0; i < sets.length; i++) {
            Check.refused(x, "fitAt(" + i + ")", x.fitAt(i), sets[i], 0);
        }
        Check.refused(x, "fitAt(" + sets.length + ")", x.fitAt(sets.length), -1, 1);
    }

    private static void fitsOfTerms() {
        Sentences.ofTerms("III", "FITS: sets of unsure pairs that know each other by so much as told (others are STRANGERS) by which all that was felt is so,");
        String[] felt = {"8ab", "9ab", "10ab", "12ab", "13ab", "14ab"};
        int[][] sets = {{}, {0}, {}, {}, {1}, {}};
        for (int i = 0; i < felt.length; i++) {
            fitting(of(10, 1, "p0 p0 p0", "ab?3", felt[i]), sets[i]);
        }
        // each two of six, told either way round
        for (char one = 'a'; one <= 'f'; one++) {
            for (char other = 'a'; other <= 'f'; other++) {
                if (one != other) {
                    String two = "" + one + other;
                    fitting(of(10, 1, "p0 p0 p0 p0 p0 p0", two + "?3", "13" + two), 1);
                    fitting(of(10, 1, "p0 p0 p0 p0 p0 p0", two + "?3", "9" + two), 0);
                    String others = "abcdef".replace("" + one, "");
                    fitting(of(10, 1, "p0 p0 p0 p0 p0 p0", two + "?3", "0" + others), 0, 1);
                }
            }
        }
        // all that was felt, not some of it
        fitting(of(10, 1, "p0 p0 p0", "ab?3 ac?3", "13ab 9ac"), 1);
        fitting(of(10, 1, "p0 p0 p0", "ab?3 ac?3", "13ab 13ac"), 3);
        fitting(of(10, 1, "p0 p0 p0", "ab?3 ac?3", "13ab 13ac 13bc"));
        fitting(of(10, 1, "p0 p0 p0", "ab?3 ac?3", "13ab 9ab"));
        // 0 at least is felt, too: 2 less 9, and 5 of those who know each other less 7
        fitting(of(2, 9, "p0 p0", "ab?1", "0ab"), 0);
        fitting(of(2, 9, "p0 p0", "ab?1", "3ab"), 1);
        fitting(of(2, 9, "p0 p0 p0", "ab?1", "0abc"), 0, 1);
        // nobody, and one, feel warm
        fitting(of(10, 1, "p0 p0", "ab?1", "10 10a 10b"), 0, 1);
        fitting(of(10, 1, "p0 p0", "ab?1", "11"));
        fitting(of(0, 1, "p0 p0", "ab?1", "0"), 0, 1);
        fitting(of(60, 1, "p0 p0", "ab?1", "200ab"));

        Sentences.ofTerms("III", "all else as told at first: all such.");
        ColdPlunge x = of(10, 1, "p0 p0 p0", "ab2 bc2 ac?5", "13abc");
        fitting(x, 0);
        x.introduce(0, 2);
        Check.due("warmth(7) now", x.warmth(7), 15);
        fitting(x, 0);
        ColdPlunge y = of(10, 1, "p0 p0 p0 p0", "ab2 bc2 ad?5", "9ac");
        y.introduce(0, 2);
        y.come(0);
        fitting(y, 0, 1);
    }

    private static void askOfTerms() {
        Sentences.ofTerms("III", "ASK: the unsure pair by which, it being told, at most fewest FITS are left, the first such.");
        // nothing felt: all halve the sixteen
        ColdPlunge all = unsure("");
        Check.due("ask()", all.ask(), 0);
        Check.due("askLeaves()", all.askLeaves(), 8);
        // abc 12: of ab and bc, or of ac and bc; ad is open. bc is told already
        ColdPlunge x = unsure("12abc");
        fitting(x, 5, 6, 13, 14);
        Check.due("ask()", x.ask(), 0);
        Check.due("askLeaves()", x.askLeaves(), 2);
        // abc 14: all three; ad is open
        ColdPlunge y = unsure("14abc");
        fitting(y, 7, 15);
        Check.due("the last", y.ask(), 3);
        Check.due("askLeaves()", y.askLeaves(), 1);
        // abc 9: ab or ac, ad is open, but not both at ad known: ad 14
        ColdPlunge z = unsure("9abc 14ad");
        fitting(z, 9, 10);
        Check.due("ask()", z.ask(), 0);
        Check.due("askLeaves()", z.askLeaves(), 1);
        // who are three: bc alone would leave two of three, and so would ab: the first
        ColdPlunge three = of(10, 1, "p0 p0 p0", "ab?1 ac?1 bc?1", "9abc");
        fitting(three, 1, 2, 4);
        Check.due("ask()", three.ask(), 0);
        Check.due("askLeaves()", three.askLeaves(), 2);
        // one set alone: whatever is asked, it is left
        ColdPlunge one = unsure("14abc 14ad");
        fitting(one, 15);
        Check.due("ask()", one.ask(), 0);
        Check.due("askLeaves()", one.askLeaves(), 1);
    }

    private static void chillsOfTerms() {
        Sentences.ofTerms("III", "CHILLS: what chill (0 .. 9) could be by all that was felt, unsure ones being STRANGERS.");
        Check.due("0", of(10, 5, "p0 p0", "", "10ab").chills(), 1);
        Check.due("9", of(10, 5, "p0 p0", "", "1ab").chills(), 512);
        Check.due("10 would be", of(10, 5, "p0 p0", "", "0ab").chills(), 0);
        Check.due("9 and more", of(9, 5, "p0 p0", "", "0ab").chills(), 512);
        Check.due("5 to 9", of(5, 0, "p0 p0", "", "0ab").chills(), 992);
        Check.due("all", of(0, 0, "p0 p0", "", "0ab").chills(), 1023);
        Check.due("below 0 would be", of(10, 5, "p0 p0", "", "11ab").chills(), 0);
        Check.due("those who know each other tell nothing", of(10, 5, "p0 p0", "ab3", "13ab").chills(), 1023);
        Check.due("or that it isn't so", of(10, 5, "p0 p0", "ab3", "14ab").chills(), 0);
        Check.due("foes tell nothing", of(10, 5, "p0 p0", "ab-3", "7ab").chills(), 1023);
        Check.due("unsure ones are strangers", of(10, 5, "p0 p0", "ab?3", "8ab").chills(), 4);
        Check.due("never known", of(10, 5, "p0 p0", "ab?3", "13ab").chills(), 0);
        Check.due("two of it", of(10, 5, "p0 p0 p0", "", "8ab 4abc").chills(), 4);
        Check.due("two that don't agree", of(10, 5, "p0 p0 p0", "", "8ab 7ac").chills(), 0);
        ColdPlunge x = of(10, 2, "p0 p0 p0", "ab3 bc3", "8ac");
        x.introduce(0, 2);
        Check.due("as told at first", x.chills(), 4);
    }

    private static void fits() {
        Sentences.ofPromise(38, "FITS: how many.");
        Check.due("no unsure pair, nothing felt: none of them", of(0, 0, "p0", "", "").fits(), 1);
        Check.due("no unsure pair, felt so", of(0, 0, "p0", "", "0").fits(), 1);
        Check.due("no unsure pair, felt otherwise", of(0, 0, "p0", "", "1").fits(), 0);
        Check.due("one", of(0, 0, "p0 p0", "ab?1", "").fits(), 2);
        Check.due("four", unsure("").fits(), 16);
        Check.due("four, felt otherwise", unsure("11").fits(), 0);

        Sentences.ofPromise(38, "NONE: 1 (no PLUNGE).");
        Edge.withoutPlunge(x -> x.fits(), -1);
    }

    private static void fitAt() {
        Sentences.ofPromise(39, "The i-th, by bits of unsure pairs.");
        for (int i = 0; i < 16; i++) {
            Check.due("fitAt(" + i + ")", unsure("").fitAt(i), i);
        }
        fitting(unsure("9abc"), 1, 2, 9, 10);
        fitting(of(0, 0, "p0", "", ""), 0);

        Sentences.ofPromise(39, "NONE: 1 (i, too).");
        Edge.withoutPlunge(x -> x.fitAt(0), -1);
        Edge.bounded(() -> unsure(""), (x, i) -> x.fitAt(i), 0, 15, -1, 1);
        Edge.bounded(() -> unsure("9abc"), (x, i) -> x.fitAt(i), 0, 3, -1, 1);
        Edge.bounded(() -> of(0, 0, "p0", "", ""), (x, i) -> x.fitAt(i), 0, 0, -1, 1);
        for (int i : new int[] {-1, 0, 1}) {
            Edge.refused(() -> unsure("11"), "fitAt(" + i + ") of none", x -> x.fitAt(i), -1, 1);
        }
    }

    private static void could() {
        Sentences.ofPromise(40, "Unsure pairs in some, as bits.");
        Check.due("all", unsure("").could(), 15);
        Check.due("ab, ac, and ad", unsure("9abc").could(), 11);
        Check.due("the last alone", unsure("7abc").could(), 8);
        Check.due("none, though it fits", unsure("7abc 9ad").could(), 0);
        Check.due("none, as none fits", unsure("11").could(), 0);
        Check.due("no unsure pair", of(0, 0, "p0", "", "").could(), 0);

        Sentences.ofPromise(40, "NONE: 1 (no PLUNGE).");
        Edge.withoutPlunge(x -> x.could(), -1);
    }

    private static void surely() {
        Sentences.ofPromise(41, "Unsure pairs in all (0 without a set), as bits.");
        Check.due("none", unsure("").surely(), 0);
        Check.due("bc", unsure("12abc").surely(), 4);
        Check.due("ab, ac, bc", unsure("14abc").surely(), 7);
        Check.due("all", unsure("14abc 14ad").surely(), 15);
        Check.due("ad", unsure("9abc 14ad").surely(), 8);
        Check.due("without a set", unsure("11").surely(), 0);
        Check.due("no unsure pair", of(0, 0, "p0", "", "").surely(), 0);

        Sentences.ofPromise(41, "NONE: 1 (no PLUNGE).");
        Edge.withoutPlunge(x -> x.surely(), -1);
    }

    private static ColdPlunge[] nothingToAsk() {
        return new ColdPlunge[] {unsure("11"), of(0, 0, "p0", "", ""), of(0, 0, "p0", "", "1"), of(0, 0, "p0 p0", "ab?1", "5ab")};
    }

    private static void ask() {
        Sentences.ofPromise(42, "ASK;");
        Check.due("the first of four", unsure("").ask(), 0);
        Check.due("the fourth of four", unsure("14abc").ask(), 3);
        Check.due("the one", of(0, 0, "p0 p0", "ab?1", "").ask(), 0);

        Sentences.ofPromise(42, "-2 no FITS, no unsure pair.");
        for (ColdPlunge x : nothingToAsk()) {
            Check.refused(x, "ask()", x.ask(), -2, 0);
        }

        Sentences.ofPromise(42, "NONE: 1 (no PLUNGE).");
        Edge.withoutPlunge(x -> x.ask(), -1);
    }

    private static void askLeaves() {
        Sentences.ofPromise(43, "How many are left at most then;");
        Check.due("8 of 16", unsure("").askLeaves(), 8);
        Check.due("1 of 2", of(0, 0, "p0 p0", "ab?1", "").askLeaves(), 1);
        Check.due("1 of 1", of(0, 0, "p0 p0", "ab?1", "1ab").askLeaves(), 1);
        Check.due("2 of 3", of(10, 1, "p0 p0 p0", "ab?1 ac?1 bc?1", "9abc").askLeaves(), 2);

        Sentences.ofPromise(43, "-2 likewise.");
        for (ColdPlunge x : nothingToAsk()) {
            Check.refused(x, "askLeaves()", x.askLeaves(), -2, 0);
        }

        Sentences.ofPromise(43, "NONE: 1 (no PLUNGE).");
        Edge.withoutPlunge(x -> x.askLeaves(), -1);
    }

    private static void chills() {
        Sentences.ofPromise(44, "CHILLS, as bits.");
        Check.due("nothing felt: 0 to 9", of(0, 3, "p0", "", "").chills(), 1023);
        for (int chill = 0; chill <= 9; chill++) {
            Check.due("chill " + chill, of(20, 3, "p0 p0", "", (20 - chill) + "ab").chills(), 1 << chill);
        }
        Check.due("none", of(20, 3, "p0 p0", "", "21").chills(), 0);

        Sentences.ofPromise(44, "NONE: 1 (no PLUNGE).");
        Edge.withoutPlunge(x -> x.chills(), -1);
    }

    private static void judge() {
        Sentences.ofPromise(45, "The first felt, as told, that isn't so, unsure ones being STRANGERS;");
        String[] felt = {"9ab 10 10 10", "10 9ab 9ab 9ab", "10 10 11 9", "10 10 10 9"};
        int[] first = {-2, -2, 2, 3};
        for (int i = 0; i < 4; i++) {
            ColdPlunge x = of(10, 1, "p0 p0", "ab?3", felt[i]);
            Check.refused(x, "judge() of " + felt[i], x.judge(), first[i], 0);
        }
        Check.due("the first of four", of(10, 1, "p0 p0", "", "11 11 11 11").judge(), 0);
        Check.due("unsure ones don't know each other", of(10, 1, "p0 p0", "ab?3", "9ab 13ab").judge(), 1);
        ColdPlunge x = of(10, 2, "p0 p0 p0", "ab3 bc3", "8ac 11ac");
        x.introduce(0, 2);
        Check.due("as told at first", x.judge(), 1);

        Sentences.ofPromise(45, "-2.");
        ColdPlunge none = of(10, 1, "p0 p0", "", "");
        Check.refused(none, "nothing felt", none.judge(), -2, 0);
        ColdPlunge so = of(10, 1, "p0 p0", "", "10 9ab 10a 10b");
        Check.refused(so, "all is so", so.judge(), -2, 0);

        Sentences.ofPromise(45, "NONE: 1 (no PLUNGE).");
        Edge.withoutPlunge(y -> y.judge(), -1);
    }
}
