/** Of Terms III the acts, undoing and the images, and promises 56 to 62. */
final class EdgesOfActs {
    private static final String SIX_FREE = "p0 p0 p0 p0 p0 p0";
    private static final String ROW_TIES = "ab1 bc1 cd1 de1 ef1";

    private EdgesOfActs() {
    }

    static void look() {
        actsOfTerms();
        undoOfTerms();
        imagesOfTerms();
        come();
        get();
        introduce();
        introduceRefused();
        minute();
        undo();
        undoRefused();
        image();
        back();
        backRefused();
    }

    private static ColdPlunge of(int warm, int chill, String bathers, String ties) {
        return Check.of(Texts.of(Texts.head(warm, chill, 0, 0), bathers, ties));
    }

    private static ColdPlunge allOut(int many) {
        return of(0, 0, "p0" + " p0".repeat(many - 1), "");
    }

    private static ColdPlunge allIn(int many) {
        ColdPlunge x = allOut(many);
        for (int b = 0; b < many; b++) {
            x.come(b);
        }
        return x;
    }

    /** a bears more than there is, and b is known to a and c. */
    private static ColdPlunge three() {
        return of(5, 1, "p9 p0 p0", "ab1 bc1");
    }

    /** All but what can be undone. */
    private static String now(ColdPlunge x) {
        StringBuilder seen = new StringBuilder();
        seen.append(x.company()).append(' ').append(x.size(5)).append(' ').append(x.size(9)).append(' ').append(x.size(10));
        for (int b = 0; b < x.size(4); b++) {
            seen.append(' ').append(x.bather(b, 3)).append(' ').append(x.bather(b, 4)).append(' ').append(x.bather(b, 6));
        }
        for (int set = 0; set < 1 << x.size(4); set++) {
            seen.append(' ').append(x.warmth(set));
        }
        return seen.toString();
    }

    private static void actsOfTerms() {
        Sentences.ofTerms("III", "ACTS: COME in, GET out, INTRODUCE, MINUTE.");
        ColdPlunge x = three();
        Edge.Call[] acts = {y -> y.come(2), y -> y.get(2), y -> y.introduce(0, 2) ? 1 : 0, y -> y.come(0), y -> y.minute()};
        long[] due = {5, 5, 1, 5, 1};
        for (int i = 0; i < acts.length; i++) {
            Check.due("act " + i, acts[i].on(x), due[i]);
            Check.due("size(11) behind act " + i, x.size(11), i + 1);
        }
        // refused ones and all other calls are none
        x.come(-1);
        x.come(3);
        x.get(0);
        x.introduce(0, 2);
        x.introduce(0, 0);
        x.minute();
        x.image();
        x.stays(7);
        x.mornings(0, 0, 60);
        x.waits(0, 60);
        x.fewest(7);
        x.feed(0, 0, 0, 0, 0);
        x.plunge(20);
        Check.due("size(11) behind what is no act", x.size(11), 5);
        for (int i = 5; i > 0; i--) {
            Check.due("undo() of " + i, x.undo(), true);
            Check.due("size(11)", x.size(11), i - 1);
        }
        Check.refused(x, "undo()", x.undo(), 6);
    }

    private static void undoOfTerms() {
        Sentences.ofTerms("III", "UNDO: the latest (16 are kept).");
        for (int acts = 14; acts <= 40; acts++) {
            ColdPlunge x = allOut(6);
            String[] behind = new String[acts + 1];
            behind[0] = now(x);
            for (int i = 1; i <= acts; i++) {
                act(x, i);
                behind[i] = now(x);
                Check.due("size(11) behind " + i, x.size(11), Math.min(16, i));
            }
            int kept = Math.min(16, acts);
            for (int i = 1; i <= kept; i++) {
                Check.due("undo() " + i + " of " + acts, x.undo(), true);
                Check.due("as behind " + (acts - i), now(x).equals(behind[acts - i]), true);
                Check.due("size(11)", x.size(11), kept - i);
            }
            Check.refused(x, "undo() of " + acts + " once more", x.undo(), 6);
            Check.due("as behind " + (acts - kept), now(x).equals(behind[acts - kept]), true);
        }
        // what is undone makes room again, and doesn't come back
        ColdPlunge y = allOut(6);
        for (int round = 0; round < 5; round++) {
            for (int i = 0; i < 3; i++) {
                y.come(i);
            }
            y.undo();
            y.undo();
            Check.due("company()", y.company(), 1);
            y.get(0);
            Check.due("size(11)", y.size(11), Math.min(16, 2 * round + 2));
        }
        for (int i = 0; i < 10; i++) {
            Check.due("undo()", y.undo(), true);
        }
        Check.refused(y, "undo()", y.undo(), 6);
    }

    /** The i-th act of those that six who are out at first go through: each in its turn, in or out. */
    private static void act(ColdPlunge x, int i) {
        int b = i * 5 % 6;
        if (x.bather(b, 3) == 1) {
            x.get(b);
        } else {
            x.come(b);
        }
    }

    private static void imagesOfTerms() {
        Sentences.ofTerms("III", "IMAGES: up to 3;");
        for (Edge.Maker maker : new Edge.Maker[] {EdgesOfActs::three, () -> allOut(1), () -> allOut(6)}) {
            ColdPlunge x = maker.make();
            for (int i = 0; i < 3; i++) {
                Check.due("image()", x.image(), i);
            }
            Check.refused(x, "a fourth", x.image(), -1, 3);
            Check.refused(x, "a fifth", x.image(), -1, 3);
            Check.due("size(12)", x.size(12), 3);
            Check.due("the third stands", x.back(2), true);
        }

        Sentences.ofTerms("III", "gone back to one, nothing can be undone.");
        ColdPlunge x = allOut(6);
        x.come(0);
        x.image();
        x.come(1);
        Check.due("back(0)", x.back(0), true);
        Check.due("size(11)", x.size(11), 0);
        Check.refused(x, "undo()", x.undo(), 6);
        Check.due("company()", x.company(), 1);
        x.come(2);
        Check.due("an act behind it can be", x.undo(), true);
        Check.due("company()", x.company(), 1);
        Check.refused(x, "but not what was ahead", x.undo(), 6);
        // going back is no act
        x.come(3);
        x.back(0);
        Check.refused(x, "undo() of back()", x.undo(), 6);
        Check.due("company()", x.company(), 1);
        // not gone back: all can be undone still
        x.come(4);
        x.image();
        Check.due("undo()", x.undo(), true);
        x.come(4);
        Check.due("no such image", x.back(2), false);
        Check.due("undo() behind it", x.undo(), true);
    }

    private static void come() {
        Sentences.ofPromise(56, "COME: WARMTH then.");
        ColdPlunge x = of(10, 3, "p0 p0 p0 p0", "ab5 ac-9");
        Check.refused(x, "come(0)", x.come(0), 10, 0);
        Check.refused(x, "come(1)", x.come(1), 15, 0);
        Check.refused(x, "come(2)", x.come(2), 3, 0);
        // three strangers more: 6 below 0
        Check.refused(x, "come(3): 0 at least", x.come(3), 0, 0);
        Check.due("company()", x.company(), 15);
        ColdPlunge warmest = of(60, 0, SIX_FREE, "ab9 ac9 ad9 ae9 af9 bc9 bd9 be9 bf9 cd9 ce9 cf9 de9 df9 ef9");
        int[] warmth = {60, 69, 87, 114, 150, 195};
        for (int b = 0; b < 6; b++) {
            Check.refused(warmest, "come(" + b + ")", warmest.come(b), warmth[b], 0);
        }
        // he needn't bear it
        Check.due("come of one who doesn't", of(0, 0, "p99", "").come(0), 0);

        Sentences.ofPromise(56, "NONE: 1;");
        for (int many : new int[] {1, 4, 6}) {
            Edge.bounded(() -> allOut(many), (y, b) -> y.come(b), 0, many - 1, -1, 1);
        }
        Edge.bather((y, b) -> y.bather(b, 3) == 1 ? y.get(b) : y.come(b), -1);
        for (int b : new int[] {-1, 0, 1}) {
            Edge.refused(ColdPlunge::new, "without a plunge, come(" + b + ")", y -> y.come(b), -1, 1);
        }

        Sentences.ofPromise(56, "5 (he is in).");
        for (int many : new int[] {1, 4, 6}) {
            for (int b = 0; b < many; b++) {
                int who = b;
                Edge.refused(() -> allIn(many), "come(" + b + ") of " + many, y -> y.come(who), -1, 5);
                Edge.taken(() -> allOut(many), "come(" + b + ") of " + many, y -> y.come(who), 0);
            }
        }
        ColdPlunge again = allIn(2);
        again.get(1);
        Check.refused(again, "come(1) once he is out", again.come(1), 0, 0);
        Check.refused(again, "come(1) again", again.come(1), -1, 5);
    }

    private static void get() {
        Sentences.ofPromise(57, "GET out: WARMTH then.");
        ColdPlunge x = of(10, 3, "p0 p0 p0 p0", "ab5 ac-9");
        for (int b = 0; b < 4; b++) {
            x.come(b);
        }
        Check.refused(x, "get(3)", x.get(3), 3, 0);
        Check.refused(x, "get(0)", x.get(0), 7, 0);
        Check.refused(x, "get(2)", x.get(2), 10, 0);
        Check.refused(x, "get(1): nobody is in", x.get(1), 10, 0);
        Check.due("company()", x.company(), 0);
        ColdPlunge cold = of(1, 9, "p0 p0 p0 p0", "");
        for (int b = 0; b < 4; b++) {
            cold.come(b);
        }
        Check.due("get(0): 0 still", cold.get(0), 0);
        Check.due("get(1): 0 still", cold.get(1), 0);
        Check.due("get(2): 1", cold.get(2), 1);

        Sentences.ofPromise(57, "NONE: 1;");
        for (int many : new int[] {1, 4, 6}) {
            Edge.bounded(() -> allIn(many), (y, b) -> y.get(b), 0, many - 1, -1, 1);
        }
        for (int b : new int[] {-1, 0, 1}) {
            Edge.refused(ColdPlunge::new, "without a plunge, get(" + b + ")", y -> y.get(b), -1, 1);
        }

        Sentences.ofPromise(57, "5 (he is out).");
        for (int many : new int[] {1, 4, 6}) {
            for (int b = 0; b < many; b++) {
                int who = b;
                Edge.refused(() -> allOut(many), "get(" + b + ") of " + many, y -> y.get(who), -1, 5);
                Edge.taken(() -> allIn(many), "get(" + b + ") of " + many, y -> y.get(who), 0);
            }
        }
        ColdPlunge byMinute = of(5, 0, "p6 p5", "");
        byMinute.come(0);
        byMinute.come(1);
        byMinute.minute();
        Check.refused(byMinute, "get(0): a minute took him out", byMinute.get(0), -1, 5);
        Check.refused(byMinute, "get(1)", byMinute.get(1), 5, 0);
        Check.refused(byMinute, "get(1) again", byMinute.get(1), -1, 5);
    }

    private static void introduce() {
        Sentences.ofPromise(58, "INTRODUCE: true;");
        ColdPlunge x = of(10, 4, "p0 p0 p0", "ac9 bc9");
        Check.due("introduce(1, 0)", x.introduce(1, 0), true);
        Check.due("trouble()", x.trouble(), 0);
        Check.due("ties(0, 1)", x.ties(0, 1), 1);
        Check.due("ties(1, 0)", x.ties(1, 0), 1);
        Check.due("size(5)", x.size(5), 3);
        Check.due("size(9)", x.size(9), 1);
        Check.due("company()", x.company(), 0);
        // the one who knows five introduces each two of them: ten
        ColdPlunge star = of(0, 0, SIX_FREE, "fa1 fb1 fc1 fd1 fe1");
        int so = 0;
        for (int b = 0; b < 5; b++) {
            for (int other = b + 1; other < 5; other++) {
                Check.due("introduce(" + b + ", " + other + ")", star.introduce(b, other), true);
                so++;
                Check.due("size(9)", star.size(9), so);
                Check.due("size(5)", star.size(5), 5 + so);
            }
        }
        Check.due("nobody is left", star.meetings(), 0);
        // whether they are in means nothing
        ColdPlunge in = of(10, 4, "p0 p0 p0", "ac9 bc9 ab?9");
        in.come(0);
        Check.due("introduce(0, 1)", in.introduce(0, 1), true);
        in.come(1);
        Check.due("warmth(3)", in.warmth(3), 11);
        Check.due("unsure ones are told of still", in.size(7), 1);
    }

    private static void introduceRefused() {
        Sentences.ofPromise(58, "false: 1 (unlike);");
        Edge.two((x, b, other) -> x.introduce(b, other) ? 1 : 0, 0);

        Sentences.ofPromise(58, "5 (no STRANGERS);");
        String[] ties = {"ab1", "ab9", "ab-1", "ab-9", "ab1 ac1 bc1", "ab-1 ac1 bc1"};
        for (String one : ties) {
            Edge.Maker maker = () -> of(5, 1, "p0 p0 p0", one);
            Edge.refused(maker, "introduce(0, 1) by " + one, x -> x.introduce(0, 1) ? 1 : 0, 0, 5);
            Edge.refused(maker, "introduce(1, 0) by " + one, x -> x.introduce(1, 0) ? 1 : 0, 0, 5);
        }
        Edge.Maker met = () -> {
            ColdPlunge x = of(5, 1, "p0 p0 p0", "ac1 bc1");
            x.introduce(0, 1);
            return x;
        };
        Edge.refused(met, "introduced already", x -> x.introduce(0, 1) ? 1 : 0, 0, 5);
        Edge.refused(met, "introduced already", x -> x.introduce(1, 0) ? 1 : 0, 0, 5);
        Edge.taken(() -> {
            ColdPlunge x = met.make();
            x.undo();
            return x;
        }, "introduced, but undone", x -> x.introduce(0, 1) ? 1 : 0, 1);

        Sentences.ofPromise(58, "6 (nobody knows both).");
        String[] apart = {"", "ac1", "bc1", "ac1 bd1", "ac1 bc-1", "ac-1 bc1", "ac-1 bc-1", "ac1 bc?1", "ac?1 bc?1", "ab?1", "ab?1 ac1 cd1 db1"};
        for (String one : apart) {
            Edge.Maker maker = () -> of(5, 1, "p0 p0 p0 p0", one);
            Edge.refused(maker, "introduce(0, 1) by " + one, x -> x.introduce(0, 1) ? 1 : 0, 0, 6);
            Edge.refused(maker, "introduce(1, 0) by " + one, x -> x.introduce(1, 0) ? 1 : 0, 0, 6);
        }
        for (String one : new String[] {"ac1 bc1", "ad9 bd1", "ab?1 ac1 bc9"}) {
            Edge.taken(() -> of(5, 1, "p0 p0 p0 p0", one), "introduce(0, 1) by " + one, x -> x.introduce(0, 1) ? 1 : 0, 1);
        }
        ColdPlunge two = of(5, 1, "p0 p0", "");
        Check.refused(two, "two alone", two.introduce(0, 1), 6);
        // the one who knows both may be one who was introduced
        ColdPlunge row = of(5, 1, SIX_FREE, ROW_TIES);
        Check.refused(row, "introduce(0, 3)", row.introduce(0, 3), 6);
        row.introduce(0, 2);
        Check.due("introduce(0, 3) then", row.introduce(0, 3), true);
        row.undo();
        row.undo();
        Check.refused(row, "introduce(0, 3) undone", row.introduce(0, 3), 6);
    }

    private static void minute() {
        Sentences.ofPromise(59, "MINUTE: who got out, as bits.");
        ColdPlunge x = of(5, 0, "p6 p5 p6 p4 p99 p6", "");
        for (int b = 0; b < 6; b++) {
            x.come(b);
        }
        Check.refused(x, "minute()", x.minute(), 53, 0);
        Check.due("company()", x.company(), 10);
        Check.due("size(10)", x.size(10), 1);
        ColdPlunge all = of(0, 0, "p1 p1 p1 p1 p1 p1", "");
        for (int b = 0; b < 6; b++) {
            all.come(b);
        }
        Check.refused(all, "all six", all.minute(), 63, 0);
        Check.due("company()", all.company(), 0);
        ColdPlunge one = of(5, 0, "t1", "");
        one.come(0);
        Check.refused(one, "5 of 6", one.minute(), 1, 0);
        // minute by minute till nobody would: 12 of 13, then 9 of 10
        ColdPlunge two = of(7, 0, "p7 p10 p13", "ab2 bc3");
        for (int b = 0; b < 3; b++) {
            two.come(b);
        }
        Check.refused(two, "minute()", two.minute(), 4, 0);
        Check.refused(two, "minute()", two.minute(), 2, 0);
        Check.refused(two, "minute()", two.minute(), -1, 5);
        Check.due("size(10)", two.size(10), 2);

        Sentences.ofPromise(59, "NONE: 1 (no PLUNGE);");
        Edge.withoutPlunge(y -> y.minute(), -1);

        Sentences.ofPromise(59, "5 (nobody would).");
        for (int many : new int[] {1, 4, 6}) {
            Edge.refused(() -> allOut(many), "nobody is in", y -> y.minute(), -1, 5);
            Edge.refused(() -> allIn(many), "all bear it", y -> y.minute(), -1, 5);
        }
        for (int bears = 4; bears <= 6; bears++) {
            ColdPlunge y = of(5, 0, "p" + bears, "");
            y.come(0);
            Check.refused(y, "5 of " + bears, y.minute(), bears > 5 ? 1 : -1, bears > 5 ? 0 : 5);
            Check.due("size(10)", y.size(10), bears > 5 ? 1 : 0);
        }
        // he who is out doesn't count
        ColdPlunge out = of(5, 0, "p5 p6", "");
        out.come(0);
        Check.refused(out, "minute()", out.minute(), -1, 5);
    }

    private static void undo() {
        Sentences.ofPromise(60, "UNDO: true;");
        Edge.Call[] acts = {x -> x.come(2), x -> x.get(0), x -> x.introduce(0, 2) ? 1 : 0, x -> x.minute()};
        for (Edge.Call act : acts) {
            ColdPlunge x = three();
            x.come(0);
            String before = now(x);
            long answer = act.on(x);
            String behind = now(x);
            Check.due("an act changes it", behind.equals(before), false);
            Check.due("undo()", x.undo(), true);
            Check.due("trouble()", x.trouble(), 0);
            Check.due("as before", now(x).equals(before), true);
            Check.due("the same act again", act.on(x), answer);
            Check.due("as behind it", now(x).equals(behind), true);
        }
        // what was counted is so again
        ColdPlunge x = three();
        x.come(0);
        x.minute();
        x.introduce(0, 2);
        x.undo();
        Check.due("size(9)", x.size(9), 0);
        Check.due("size(10)", x.size(10), 1);
        x.undo();
        Check.due("size(10)", x.size(10), 0);
        Check.due("company()", x.company(), 1);
        // images aren't undone
        x.image();
        x.undo();
        Check.due("size(12)", x.size(12), 1);
        Check.due("company()", x.company(), 0);
        Check.due("back(0)", x.back(0), true);
        Check.due("company()", x.company(), 1);
        // nor is the tape
        x.come(1);
        x.feed(0, 0, 0, 0, 0);
        x.undo();
        Check.due("size(13)", x.size(13), 20);
    }

    private static void undoRefused() {
        Sentences.ofPromise(60, "false: 6.");
        Edge.refused(ColdPlunge::new, "without a plunge", x -> x.undo() ? 1 : 0, 0, 6);
        Edge.refused(() -> allOut(3), "no act", x -> x.undo() ? 1 : 0, 0, 6);
        Edge.refused(() -> {
            ColdPlunge x = allOut(3);
            x.come(0);
            x.undo();
            return x;
        }, "undone already", x -> x.undo() ? 1 : 0, 0, 6);
        Edge.refused(() -> {
            ColdPlunge x = allOut(3);
            x.get(0);
            x.minute();
            x.introduce(0, 1);
            return x;
        }, "refused acts", x -> x.undo() ? 1 : 0, 0, 6);
        Edge.refused(() -> {
            ColdPlunge x = allIn(3);
            Check.tell(x, Texts.of(Texts.head(0, 0, 0, 0), "p0"));
            return x;
        }, "a plunge anew", x -> x.undo() ? 1 : 0, 0, 6);
        Edge.taken(() -> {
            ColdPlunge x = allIn(3);
            Check.tell(x, "!");
            return x;
        }, "a faulty one", x -> x.undo() ? 1 : 0, 1);
        Edge.taken(() -> allIn(1), "one act", x -> x.undo() ? 1 : 0, 1);
    }

    private static void image() {
        Sentences.ofPromise(61, "An IMAGE: its number.");
        ColdPlunge x = three();
        for (int i = 0; i < 3; i++) {
            Check.refused(x, "image()", x.image(), i, 0);
            Check.due("size(12)", x.size(12), i + 1);
            x.come(i);
        }
        // going back frees no number, and takes none
        ColdPlunge y = three();
        y.image();
        y.back(0);
        Check.due("image() behind back(0)", y.image(), 1);
        y.back(0);
        Check.due("image() behind back(0)", y.image(), 2);
        // by another plunge they begin anew
        Check.tell(y, Texts.of(Texts.head(0, 0, 0, 0), "p0"));
        Check.due("image() of another plunge", y.image(), 0);
        Check.tell(y, "!");
        Check.due("image() behind a faulty text", y.image(), 1);

        Sentences.ofPromise(61, "NONE: 1 (no PLUNGE);");
        Edge.withoutPlunge(z -> z.image(), -1);

        Sentences.ofPromise(61, "3.");
        Edge.Maker full = () -> {
            ColdPlunge z = three();
            z.come(0);
            z.image();
            z.image();
            z.image();
            z.come(1);
            return z;
        };
        Edge.refused(full, "a fourth", z -> z.image(), -1, 3);
        Edge.refused(() -> {
            ColdPlunge z = full.make();
            z.back(2);
            z.come(2);
            return z;
        }, "a fourth behind back(2)", z -> z.image(), -1, 3);
        ColdPlunge z = full.make();
        z.image();
        z.back(2);
        Check.due("the third is as it was taken", z.company(), 1);
        Edge.taken(() -> {
            ColdPlunge w = three();
            w.image();
            w.image();
            return w;
        }, "a third", w -> w.image(), 2);
    }

    private static void back() {
        Sentences.ofPromise(62, "All is as by an IMAGE (all IMAGES stay): true;");
        ColdPlunge x = three();
        String[] seen = new String[3];
        seen[0] = now(x);
        x.image();
        x.come(0);
        x.come(1);
        x.introduce(0, 2);
        seen[1] = now(x);
        x.image();
        x.minute();
        x.get(1);
        x.come(2);
        seen[2] = now(x);
        x.image();
        x.undo();
        int[] order = {1, 0, 2, 2, 0, 1, 2, 1, 0};
        for (int i : order) {
            Check.due("back(" + i + ")", x.back(i), true);
            Check.due("trouble()", x.trouble(), 0);
            Check.due("as by image " + i, now(x).equals(seen[i]), true);
            Check.due("size(12)", x.size(12), 3);
            Check.due("size(11)", x.size(11), 0);
            // what happens then changes no image
            act(x, 0);
            x.introduce(0, 2);
            x.minute();
        }
        Check.due("size(13)", x.size(13), 0);
        x.feed(0, 0, 0, 0, 0);
        x.back(0);
        Check.due("the tape stays", x.size(13), 20);
        Check.due("as by image 0", now(x).equals(seen[0]), true);
    }

    private static void backRefused() {
        Sentences.ofPromise(62, "false: 1.");
        for (int number : new int[] {-1, 0, 1, 3}) {
            Edge.refused(ColdPlunge::new, "without a plunge, back(" + number + ")", x -> x.back(number) ? 1 : 0, 0, 1);
            Edge.refused(() -> allIn(3), "without an image, back(" + number + ")", x -> x.back(number) ? 1 : 0, 0, 1);
        }
        for (int images = 1; images <= 3; images++) {
            int many = images;
            Edge.bounded(() -> {
                ColdPlunge x = allIn(3);
                for (int i = 0; i < many; i++) {
                    x.image();
                }
                return x;
            }, (x, number) -> x.back(number) ? 1 : 0, 0, many - 1, 0, 1);
        }
        Edge.refused(() -> {
            ColdPlunge x = allIn(3);
            x.image();
            Check.tell(x, Texts.of(Texts.head(0, 0, 0, 0), "p0 p0 p0"));
            return x;
        }, "an image of another plunge", x -> x.back(0) ? 1 : 0, 0, 1);
        Edge.taken(() -> {
            ColdPlunge x = allIn(3);
            x.image();
            Check.tell(x, "!");
            return x;
        }, "a faulty text leaves it", x -> x.back(0) ? 1 : 0, 1);
    }
}
