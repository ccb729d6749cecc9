/** Of Terms III the visitors and the mornings, and promises 51 to 55. */
final class EdgesOfVisitors {
    private static final String SIX_FREE = "p0 p0 p0 p0 p0 p0";
    /** Gets to itself: 75 times 65,536 and 74 is 65,536 again; each draw is 36. */
    private static final int STANDING_SEED = 65536;

    private EdgesOfVisitors() {
    }

    static void look() {
        visitorsOfTerms();
        morningsOfTerms();
        seedOfTerms();
        odds();
        mean();
        icy();
        mornings();
        waits();
    }

    private static ColdPlunge of(int warm, int chill, int ice, int visits, String bathers, String ties) {
        return Check.of(Texts.of(Texts.head(warm, chill, ice, visits), bathers, ties));
    }

    private static void odds(ColdPlunge x, int b, long upper, long lower) {
        Check.refused(x, "odds(" + b + ", false)", x.odds(b, false), upper, 0);
        Check.refused(x, "odds(" + b + ", true)", x.odds(b, true), lower, 0);
    }

    private static void mean(ColdPlunge x, long upper, long lower) {
        Check.refused(x, "mean(false)", x.mean(false), upper, 0);
        Check.refused(x, "mean(true)", x.mean(true), lower, 0);
    }

    private static void icy(ColdPlunge x, long upper, long lower) {
        Check.refused(x, "icy(false)", x.icy(false), upper, 0);
        Check.refused(x, "icy(true)", x.icy(true), lower, 0);
    }

    private static void visitorsOfTerms() {
        Sentences.ofTerms("III", "VISITORS: each bather (each other one, if it is said) is in, as likely as told.");
        // a stranger by 4 takes from 10: both are in with 1 of 4, and a has b with 1 of 2
        ColdPlunge x = of(10, 4, 7, 50, "p7 p6", "");
        mean(x, 9, 1);
        icy(x, 1, 4);
        odds(x, 0, 1, 2);
        odds(x, 1, 1, 1);
        // who is in now means nothing
        x.come(0);
        mean(x, 9, 1);
        odds(x, 0, 1, 2);
        x.come(1);
        icy(x, 1, 4);
        odds(x, 0, 1, 2);
        // nobody ever
        ColdPlunge never = of(10, 4, 7, 0, "p7 p6", "");
        mean(never, 10, 1);
        icy(never, 0, 1);
        odds(never, 0, 1, 1);
        // all ever
        ColdPlunge ever = of(10, 4, 7, 100, "p7 p6", "");
        mean(ever, 6, 1);
        icy(ever, 1, 1);
        odds(ever, 0, 0, 1);
        odds(ever, 1, 1, 1);
        // 1 and 99 in a hundred
        mean(of(10, 4, 7, 1, "p7 p6", ""), 24999, 2500);
        odds(of(10, 4, 7, 1, "p7 p6", ""), 0, 99, 100);
        odds(of(10, 4, 7, 99, "p7 p6", ""), 0, 1, 100);
    }

    private static void morningsOfTerms() {
        Sentences.ofTerms("III", "MORNINGS by a SEED: each: for each bather, by numbers, a DRAW mod 100: below visits he comes in, all at once;");
        // by 0 the draws are 74, 24, 52, 90, 41, 9
        int[] draws = {74, 24, 52, 90, 41, 9};
        for (int b = 0; b < 6; b++) {
            Check.due("below " + draws[b], of(0, 0, 0, draws[b], SIX_FREE, "").mornings(b, 0, 1), 0);
            Check.due("below " + (draws[b] + 1), of(0, 0, 0, draws[b] + 1, SIX_FREE, "").mornings(b, 0, 1), 1);
        }
        Check.due("never", of(0, 0, 0, 0, "p0", "").mornings(0, 45438, 1), 0);
        Check.due("by a draw of 0", of(0, 0, 0, 1, "p0", "").mornings(0, 45438, 1), 1);
        Check.due("by a draw of 100: 0", of(0, 0, 0, 1, "p0", "").mornings(0, 1748, 1), 1);
        Check.due("by a draw of 99", of(0, 0, 0, 99, "p0", "").mornings(0, 21846, 1), 0);
        Check.due("ever", of(0, 0, 0, 100, "p0", "").mornings(0, 21846, 1), 1);
        // all at once: one by one a would bear it, and b wouldn't come out of it
        Check.due("foes at once", of(5, 0, 0, 100, "p5 p5", "ab-1").mornings(0, 0, 3), 0);
        Check.due("strangers at once", of(5, 0, 0, 100, "p5 p5", "").mornings(0, 0, 3), 3);

        Sentences.ofTerms("III", "then MINUTES till nobody gets out");
        ColdPlunge x = of(7, 0, 0, 100, "p7 p10 p13", "ab2 bc3");
        // 12 of 13: c; 9 of 10: b; 7 of 7
        Check.due("a stays", x.mornings(0, 1, 4), 4);
        Check.due("b gets out", x.mornings(1, 1, 4), 0);
        Check.due("c gets out", x.mornings(2, 1, 4), 0);
        Check.due("two minutes each", x.waits(1, 4), 8);
    }

    private static void seedOfTerms() {
        Sentences.ofTerms("III", "(SEED becomes (75 times SEED and 74) mod 65,537).");
        Check.due("65,536 stays, 36 isn't below 36", of(0, 0, 0, 36, SIX_FREE, "").mornings(5, STANDING_SEED, 60), 0);
        Check.due("65,536 stays, 36 is below 37", of(0, 0, 0, 37, SIX_FREE, "").mornings(5, STANDING_SEED, 60), 60);
        // 872 becomes 65,474, but 873 comes round to 12
        Check.due("below 74", of(0, 0, 0, 74, "p0", "").mornings(0, 872, 1), 0);
        Check.due("below 75", of(0, 0, 0, 75, "p0", "").mornings(0, 872, 1), 1);
        Check.due("below 12", of(0, 0, 0, 12, "p0", "").mornings(0, 873, 1), 0);
        Check.due("below 13", of(0, 0, 0, 13, "p0", "").mornings(0, 873, 1), 1);
        // one morning's last draw is the next one's seed: 74 24 52 90 41 9 31 44 4 50 39 86
        int[] stays = {0, 1, 1, 1, 2, 3, 4, 5, 6, 6, 7, 7};
        ColdPlunge one = of(0, 0, 0, 50, "p0", "");
        for (int n = 1; n <= 12; n++) {
            Check.due("of " + n + " mornings", one.mornings(0, 0, n), stays[n - 1]);
        }
        ColdPlunge three = of(0, 0, 0, 50, "p0 p0 p0", "");
        int[][] byThree = {{0, 1, 0}, {0, 2, 1}, {1, 3, 2}, {1, 4, 2}};
        for (int b = 0; b < 3; b++) {
            for (int n = 1; n <= 4; n++) {
                Check.due("of " + n + " mornings of three", three.mornings(b, 0, n), byThree[n - 1][b]);
            }
        }
        Check.due("again by the same seed", one.mornings(0, 0, 12), 7);
        Check.due("by the next seed", one.mornings(0, 74, 11), 7);
    }

    private static void odds() {
        Sentences.ofPromise(51, "How likely a bather who is in BEARS it with VISITORS, the upper WHOLE or the lower, in lowest terms (0 by 1).");
        odds(of(5, 0, 0, 50, "p6", ""), 0, 0, 1);
        odds(of(5, 0, 0, 50, "p5", ""), 0, 1, 1);
        odds(of(5, 0, 0, 50, "p6 p0", "ab1"), 0, 1, 2);
        odds(of(5, 0, 0, 25, "p6 p0", "ab1"), 0, 1, 4);
        odds(of(5, 0, 0, 30, "p6 p0", "ab1"), 0, 3, 10);
        odds(of(5, 0, 0, 37, "p6 p0", "ab1"), 0, 37, 100);
        odds(of(5, 0, 0, 0, "p6 p0", "ab1"), 0, 0, 1);
        odds(of(5, 0, 0, 100, "p6 p0", "ab1"), 0, 1, 1);
        // with all five others alone
        String star = "ab1 ac1 ad1 ae1 af1";
        odds(of(5, 0, 0, 1, "p10 p0 p0 p0 p0 p0", star), 0, 1, 10000000000L);
        odds(of(5, 0, 0, 99, "p10 p0 p0 p0 p0 p0", star), 0, 9509900499L, 10000000000L);
        odds(of(5, 0, 0, 50, "p10 p0 p0 p0 p0 p0", star), 0, 1, 32);
        odds(of(5, 0, 0, 99, "p11 p0 p0 p0 p0 p0", star), 0, 0, 1);
        // the last of six
        odds(of(5, 0, 0, 1, "p0 p0 p0 p0 p0 p10", "fa1 fb1 fc1 fd1 fe1"), 5, 1, 10000000000L);

        Sentences.ofPromise(51, "-1: 1.");
        Edge.bather((x, b) -> x.odds(b, false), -1);
        Edge.bather((x, b) -> x.odds(b, true), -1);
    }

    private static void mean() {
        Sentences.ofPromise(52, "The mean of WARMTH with VISITORS, likewise.");
        mean(of(0, 0, 0, 50, "p0", ""), 0, 1);
        mean(of(7, 9, 0, 50, "p0", ""), 7, 1);
        mean(of(7, 9, 0, 0, SIX_FREE, ""), 7, 1);
        mean(of(0, 9, 0, 100, SIX_FREE, ""), 0, 1);
        mean(of(60, 0, 0, 100, SIX_FREE, "ab9 ac9 ad9 ae9 af9 bc9 bd9 be9 bf9 cd9 ce9 cf9 de9 df9 ef9"), 195, 1);
        mean(of(60, 0, 0, 50, SIX_FREE, "ab9 ac9 ad9 ae9 af9 bc9 bd9 be9 bf9 cd9 ce9 cf9 de9 df9 ef9"), 375, 4);
        // 14 less 15 pairs of 1 by 10,000; with all six it is 0 instead of 1 less, once of 10 to the 12th
        mean(of(14, 1, 0, 1, SIX_FREE, ""), 13998500000001L, 1000000000000L);
        mean(of(15, 1, 0, 1, SIX_FREE, ""), 29997, 2000);
        ColdPlunge x = of(10, 3, 0, 50, "p0 p0 p0", "ab1 bc1");
        // 10 and 2 less 3 of a quarter each
        mean(x, 39, 4);
        x.introduce(0, 2);
        mean(x, 43, 4);

        Sentences.ofPromise(52, "-1: 1 (no PLUNGE).");
        Edge.withoutPlunge(y -> y.mean(false), -1);
        Edge.withoutPlunge(y -> y.mean(true), -1);
    }

    private static void icy() {
        Sentences.ofPromise(53, "How likely there is ice then, likewise.");
        icy(of(5, 0, 5, 50, "p0", ""), 0, 1);
        icy(of(5, 0, 6, 50, "p0", ""), 1, 1);
        icy(of(0, 0, 0, 50, "p0", ""), 0, 1);
        icy(of(15, 1, 1, 1, SIX_FREE, ""), 1, 1000000000000L);
        icy(of(15, 1, 1, 99, SIX_FREE, ""), 941480149401L, 1000000000000L);
        icy(of(15, 1, 1, 50, SIX_FREE, ""), 1, 64);
        icy(of(16, 1, 1, 50, SIX_FREE, ""), 0, 1);
        icy(of(15, 1, 1, 100, SIX_FREE, ""), 1, 1);
        icy(of(15, 1, 1, 0, SIX_FREE, ""), 0, 1);
        // without all six: 15 by two, ice above it: but for one and nobody
        icy(of(15, 1, 15, 50, "p0 p0", ""), 1, 4);
        icy(of(15, 1, 14, 50, "p0 p0", ""), 0, 1);

        Sentences.ofPromise(53, "-1: 1 (no PLUNGE).");
        Edge.withoutPlunge(y -> y.icy(false), -1);
        Edge.withoutPlunge(y -> y.icy(true), -1);
    }

    private static void mornings() {
        Sentences.ofPromise(54, "How many of n MORNINGS (0 .. 60) by a SEED (0 .. 65,536) a bather stays in.");
        ColdPlunge x = of(0, 0, 0, 100, "p0 p0 p0 p0 p0 p1", "");
        for (int n : new int[] {0, 1, 59, 60}) {
            for (int seed : new int[] {0, 1, 65535, 65536}) {
                Check.refused(x, "mornings(0, " + seed + ", " + n + ")", x.mornings(0, seed, n), n, 0);
                Check.refused(x, "mornings(4, " + seed + ", " + n + ")", x.mornings(4, seed, n), n, 0);
                Check.refused(x, "mornings(5, " + seed + ", " + n + ")", x.mornings(5, seed, n), 0, 0);
            }
        }
        x.come(5);
        Check.due("who is in now doesn't count", x.mornings(5, 0, 60), 0);
        Check.due("and isn't changed", x.company(), 32);
        ColdPlunge never = of(0, 0, 0, 0, "p0", "");
        never.come(0);
        Check.due("nor does he stay from now", never.mornings(0, 0, 60), 0);

        Sentences.ofPromise(54, "NONE: 1;");
        Edge.bather((y, b) -> y.mornings(b, 0, 1), -1);
        Edge.bather((y, b) -> y.mornings(b, 65536, 60), -1);
        Edge.refused(Edge::four, "all wrong", y -> y.mornings(4, -1, 61), -1, 1);
        Edge.refused(ColdPlunge::new, "all wrong", y -> y.mornings(0, -1, 61), -1, 1);

        Sentences.ofPromise(54, "2.");
        Edge.bounded(Edge::four, (y, seed) -> y.mornings(0, seed, 60), 0, 65536, -1, 2);
        Edge.bounded(Edge::four, (y, seed) -> y.mornings(3, seed, 0), 0, 65536, -1, 2);
        Edge.bounded(Edge::four, (y, n) -> y.mornings(0, 0, n), 0, 60, -1, 2);
        Edge.bounded(Edge::four, (y, n) -> y.mornings(3, 65536, n), 0, 60, -1, 2);
        Edge.refused(Edge::four, "both", y -> y.mornings(0, 65537, 61), -1, 2);
    }

    private static void waits() {
        Sentences.ofPromise(55, "Behind how many MINUTES, of all of them together, nobody got out any more.");
        ColdPlunge none = of(0, 0, 0, 100, SIX_FREE, "");
        ColdPlunge one = of(0, 0, 0, 100, "p0 p0 p0 p0 p0 p1", "");
        ColdPlunge six = of(0, 0, 0, 100, "p1 p2 p4 p7 p11 p16", "ab1 ac1 ad1 ae1 af1 bc1 bd1 be1 bf1 cd1 ce1 cf1 de1 df1 ef1");
        for (int n : new int[] {0, 1, 2, 60}) {
            Check.refused(none, "nobody gets out", none.waits(0, n), 0, 0);
            Check.refused(one, "in one minute", one.waits(65536, n), n, 0);
            Check.refused(six, "in six", six.waits(3, n), 6 * n, 0);
        }
        // by 0 a comes at the draws below 50: of 74 24 52 90 41 9 at three, and gets out each time
        Check.due("when he comes", of(0, 0, 0, 50, "p1", "").waits(0, 6), 3);
        ColdPlunge bySeed = of(0, 0, 0, 50, "p1", "");
        int[] seeds = {0, 74, 65536, 0, 872, 873, 74, 1};
        int[] first = {0, 1, 1, 0, 0, 1, 1, 1};
        for (int i = 0; i < seeds.length; i++) {
            Check.due("one morning by " + seeds[i], bySeed.waits(seeds[i], 1), first[i]);
        }
        Check.due("five by the draw of 0", bySeed.waits(74, 5), 3);
        Check.due("six by 0 again", bySeed.waits(0, 6), 3);
        Check.due("size(10) is of the bath alone", one.size(10), 0);

        Sentences.ofPromise(55, "NONE: 1 (no PLUNGE);");
        Edge.withoutPlunge(y -> y.waits(0, 0), -1);
        Edge.refused(ColdPlunge::new, "all wrong", y -> y.waits(-1, 61), -1, 1);

        Sentences.ofPromise(55, "2.");
        Edge.bounded(Edge::four, (y, seed) -> y.waits(seed, 60), 0, 65536, -1, 2);
        Edge.bounded(Edge::four, (y, seed) -> y.waits(seed, 0), 0, 65536, -1, 2);
        Edge.bounded(Edge::four, (y, n) -> y.waits(0, n), 0, 60, -1, 2);
        Edge.bounded(Edge::four, (y, n) -> y.waits(65536, n), 0, 60, -1, 2);
        Edge.refused(Edge::four, "both", y -> y.waits(-1, -1), -1, 2);
    }
}
