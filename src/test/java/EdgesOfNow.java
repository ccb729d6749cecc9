/** Terms II and promises 6 to 17: how warm it is, who bears it, who gets out. */
final class EdgesOfNow {
    /** Six who all know each other by 1: so many have 0, 0, 1, 3, 6, 10, 15. With all in, f, e, d, c, b, a get out one by one. */
    private static final String PEELED = Texts.of(Texts.head(0, 0, 0, 0), "p1 p2 p4 p7 p11 p16",
        "ab1 ac1 ad1 ae1 af1 bc1 bd1 be1 bf1 cd1 ce1 cf1 de1 df1 ef1");
    /** The warmest that can be told: 60 and 9 of each of fifteen pairs. */
    private static final String WARMEST = Texts.of(Texts.head(60, 9, 30, 0), "p0 t99 p0 p0 p0 p0",
        "ab9 ac9 ad9 ae9 af9 bc9 bd9 be9 bf9 cd9 ce9 cf9 de9 df9 ef9");

    private EdgesOfNow() {
    }

    static void look() {
        warmthByPairs();
        warmthInBounds();
        needs();
        bearing();
        snug();
        minuteAtOnce();
        batherToldOf();
        batherNow();
        ties();
        company();
        warmth();
        bear();
        iced();
        stays();
        minutes();
        spare();
        closest();
        loneliest();
        mates();
    }

    private static ColdPlunge of(int warm, int chill, String bathers, String ties) {
        return Check.of(Texts.of(Texts.head(warm, chill, 0, 0), bathers, ties));
    }

    private static void warmthByPairs() {
        ColdPlunge x = of(50, 7, "p0 p0 p0 p0 p0", "ab1 ac9 ad-1 ae-9 bc?9");
        Sentences.ofTerms("II", "Two who know each other (by 1 to 9), foes (by 1 to 9), or else STRANGERS");
        int[] ties = {1, 9, -1, -9};
        for (int other = 1; other < 5; other++) {
            Check.due("ties(0, " + other + ")", x.ties(0, other), ties[other - 1]);
            Check.due("ties(" + other + ", 0)", x.ties(other, 0), ties[other - 1]);
        }
        Check.due("ties(3, 4)", x.ties(3, 4), 0);

        Sentences.ofTerms("II", "(so are unsure ones, where nothing else is said).");
        Check.due("ties(1, 2)", x.ties(1, 2), 0);
        Check.due("warmth of unsure ones", x.warmth(6), 43);
        Check.due("bather(1, 4)", x.bather(1, 4), 1);
        Check.due("bather(1, 5)", x.bather(1, 5), 0);

        Sentences.ofTerms("II", "WARMTH of a COMPANY (a set of bathers): warm, and for each two of it: by how much they know each other more, "
            + "by how much they are foes less, STRANGERS by chill less;");
        Check.due("nobody", x.warmth(0), 50);
        for (int b = 0; b < 5; b++) {
            Check.due("one alone", x.warmth(1 << b), 50);
        }
        Check.due("ab", x.warmth(3), 51);
        Check.due("ac", x.warmth(5), 59);
        Check.due("ad", x.warmth(9), 49);
        Check.due("ae", x.warmth(17), 41);
        Check.due("de", x.warmth(24), 43);
        Check.due("abc", x.warmth(7), 53);
        // ab 1, ac 9, ad -1, ae -9 and six strangers
        Check.due("all", x.warmth(31), 8);
    }

    private static void warmthInBounds() {
        Sentences.ofTerms("II", "0 at least, 200 at most.");
        for (int warm = 5; warm <= 9; warm++) {
            Check.due("strangers by 7, warm " + warm, of(warm, 7, "p0 p0", "").warmth(3), Math.max(0, warm - 7));
            Check.due("foes by 7, warm " + warm, of(warm, 0, "p0 p0", "ab-7").warmth(3), Math.max(0, warm - 7));
        }
        Check.due("far below", of(0, 9, "p0 p0 p0 p0 p0 p0", "").warmth(63), 0);
        // what is below 0 with some isn't cut off ahead of the rest: 5 less 9 less 9 and 9 and 9, with d: and 9
        Check.due("below 0 on the way", of(5, 9, "p0 p0 p0 p0", "ac9 bd9 cd9 ab-9 ad-5").warmth(15), 9);
        Check.due("all that can be", Check.of(WARMEST).warmth(63), 195);
    }

    private static void needs() {
        Sentences.ofTerms("II", "NEED of a bather: what he bears; a tender one 5 more, a hardy one 5 less (0 at least).");
        String[] bathers = {"p0", "p1", "p99", "t0", "t1", "t99", "h0", "h4", "h5", "h6", "h99"};
        int[] needs = {0, 1, 99, 5, 6, 104, 0, 0, 0, 1, 94};
        for (int i = 0; i < bathers.length; i++) {
            ColdPlunge x = of(0, 0, bathers[i], "");
            Check.due("NEED of " + bathers[i], x.bather(0, 2), needs[i]);
            Check.due("alone with 0, " + bathers[i], x.bear(1), needs[i] == 0 ? 1 : 0);
        }
    }

    private static void bearing() {
        Sentences.ofTerms("II", "He BEARS a COMPANY (in which he is) if its WARMTH is no less than his NEED.");
        ColdPlunge x = of(10, 0, "p9 p10 p11 t4 t5 t6", "");
        Check.due("bear(63)", x.bear(63), 1 + 2 + 8 + 16);
        Check.due("those who are in it alone", x.bear(4 + 16), 16);
        Check.due("none who isn't", x.bear(4), 0);
        ColdPlunge hardy = of(10, 0, "h14 h15 h16", "");
        Check.due("bear(7)", hardy.bear(7), 3);
    }

    private static void snug() {
        Sentences.ofTerms("II", "A COMPANY is SNUG if all in it BEAR it (nobody: it is).");
        ColdPlunge x = of(10, 0, "p10 p11", "");
        Check.due("snugs(): nobody, a", x.snugs(), 2);
        Check.due("comes(0)", x.comes(0), 1);
        Check.due("comes(1)", x.comes(1), 1);
        Check.due("comes(2)", x.comes(2), 0);
        Check.due("comes(3)", x.comes(3), 0);
        Check.due("snugs() where nobody bears it", of(0, 0, "p1 p1", "").snugs(), 1);
        Check.due("snugs() where all do", of(0, 0, "p0 p0 p0 p0 p0 p0", "").snugs(), 64);
    }

    private static void minuteAtOnce() {
        Sentences.ofTerms("II", "A MINUTE: all who don't BEAR it get out at once.");
        // each would bear it without the other one
        ColdPlunge x = of(5, 0, "p5 p5 p0", "ab-9");
        x.come(0);
        x.come(1);
        x.come(2);
        Check.due("minute()", x.minute(), 3);
        Check.due("company()", x.company(), 4);
        Check.due("stays(7)", x.stays(7), 4);
        Check.due("minutes(7)", x.minutes(7), 1);
        // who doesn't bear it behind the first minute stays till the second
        ColdPlunge y = Check.of(PEELED);
        for (int b = 0; b < 6; b++) {
            y.come(b);
        }
        for (int b = 5; b >= 0; b--) {
            Check.due("minute()", y.minute(), 1 << b);
            Check.due("company()", y.company(), (1 << b) - 1);
        }
        Check.refused(y, "minute() of nobody", y.minute(), -1, 5);
    }

    private static void batherToldOf() {
        Sentences.ofPromise(6, "Of a bather 0 KIND (0 plain, 1 tender, 2 hardy), 1 what he bears, 2 NEED,");
        ColdPlunge x = of(0, 0, "p0 p99 t0 t99 h4 h99", "");
        int[][] due = {{0, 0, 0}, {0, 99, 99}, {1, 0, 5}, {1, 99, 104}, {2, 4, 0}, {2, 99, 94}};
        for (int b = 0; b < 6; b++) {
            for (int what = 0; what < 3; what++) {
                Check.due("bather(" + b + ", " + what + ")", x.bather(b, what), due[b][what]);
            }
        }

        Sentences.ofPromise(6, "NONE: 1.");
        for (int what = 0; what < 7; what++) {
            int fact = what;
            Edge.bather((y, b) -> y.bather(b, fact), -1);
        }
        for (Edge.Maker maker : Edge.all()) {
            Edge.bounded(maker, (y, what) -> y.bather(0, what), 0, 6, -1, 1);
        }
        Edge.refused(Edge::four, "both wrong", y -> y.bather(4, 7), -1, 1);
    }

    private static void batherNow() {
        Sentences.ofPromise(6, "3 1 if he is in,");
        ColdPlunge x = of(0, 0, "p0 p0 p0 p0 p0 p1", "");
        for (int b = 0; b < 6; b++) {
            Check.due("out", x.bather(b, 3), 0);
            x.come(b);
            Check.due("in", x.bather(b, 3), 1);
        }
        x.get(0);
        Check.due("got out", x.bather(0, 3), 0);
        x.undo();
        Check.due("undone", x.bather(0, 3), 1);
        x.minute();
        Check.due("out by a minute", x.bather(5, 3), 0);
        Check.due("still in", x.bather(4, 3), 1);

        Sentences.ofPromise(6, "4 whom he knows NOW, as bits,");
        ColdPlunge y = of(0, 0, "p0 p0 p0 p0 p0 p0", "af1 fb9 ac-1 ad?9");
        int[] knows = {32, 32, 0, 0, 0, 3};
        for (int b = 0; b < 6; b++) {
            Check.due("bather(" + b + ", 4)", y.bather(b, 4), knows[b]);
        }
        y.introduce(1, 0);
        Check.due("introduced", y.bather(0, 4), 34);
        Check.due("introduced", y.bather(1, 4), 33);
        y.undo();
        Check.due("undone", y.bather(0, 4), 32);
        Check.due("undone", y.bather(1, 4), 32);

        Sentences.ofPromise(6, "5 foes, as bits,");
        int[] foes = {4, 0, 1, 0, 0, 0};
        for (int b = 0; b < 6; b++) {
            Check.due("bather(" + b + ", 5)", y.bather(b, 5), foes[b]);
        }
        Check.due("foes of all", of(0, 0, "p0 p0 p0 p0 p0 p0", "ab-1 ca-9 ad-1 ae-1 fa-1").bather(0, 5), 62);

        Sentences.ofPromise(6, "6 1 if he BEARS it NOW (0 if he is out).");
        ColdPlunge z = of(10, 1, "p10 p9 p8", "");
        Check.due("out, though he would", z.bather(0, 6), 0);
        z.come(0);
        Check.due("10 of 10", z.bather(0, 6), 1);
        Check.due("out, though others are in", z.bather(1, 6), 0);
        z.come(1);
        Check.due("9 of 10", z.bather(0, 6), 0);
        Check.due("9 of 9", z.bather(1, 6), 1);
        z.come(2);
        Check.due("7 of 8", z.bather(2, 6), 0);
        z.get(1);
        z.get(0);
        Check.due("10 of 8", z.bather(2, 6), 1);
        Check.due("got out", z.bather(0, 6), 0);
    }

    private static void ties() {
        Sentences.ofPromise(7, "By how much two know each other NOW; below 0 by how much they are foes; 0 STRANGERS.");
        ColdPlunge x = of(0, 0, "p0 p0 p0 p0 p0 p0", "ab9 bc1 ef-1 df-9 ad?9");
        Check.due("ties(0, 1)", x.ties(0, 1), 9);
        Check.due("ties(2, 1)", x.ties(2, 1), 1);
        Check.due("ties(5, 4)", x.ties(5, 4), -1);
        Check.due("ties(3, 5)", x.ties(3, 5), -9);
        Check.due("ties(0, 3), unsure", x.ties(0, 3), 0);
        Check.due("ties(0, 2)", x.ties(0, 2), 0);
        x.introduce(0, 2);
        Check.due("introduced", x.ties(0, 2), 1);
        Check.due("introduced", x.ties(2, 0), 1);
        Check.due("ties(0, 1)", x.ties(0, 1), 9);
        x.undo();
        Check.due("undone", x.ties(0, 2), 0);

        Sentences.ofPromise(7, "-100: 1 (unlike).");
        Edge.two((y, b, other) -> y.ties(b, other), -100);
        for (int b = 0; b < 6; b++) {
            for (int other = 0; other < 6; other++) {
                int one = b;
                int second = other;
                if (b != other) {
                    Edge.taken(Edge::six, "ties(" + b + ", " + other + ")", y -> y.ties(one, second));
                }
            }
        }
    }

    private static void company() {
        Sentences.ofPromise(8, "The COMPANY that is in.");
        ColdPlunge x = of(0, 0, "p0 p0 p0 p0 p0 p0", "");
        Check.due("nobody", x.company(), 0);
        x.come(5);
        Check.due("the last", x.company(), 32);
        for (int b = 0; b < 5; b++) {
            x.come(b);
        }
        Check.due("all", x.company(), 63);
        x.get(3);
        Check.due("but one", x.company(), 55);
        x.come(3);
        x.come(3);
        Check.due("a refused one changes nothing", x.company(), 63);

        Sentences.ofPromise(8, "NONE: 1 (no PLUNGE).");
        Edge.withoutPlunge(y -> y.company(), -1);
    }

    private static void warmth() {
        Sentences.ofPromise(9, "WARMTH of a COMPANY.");
        ColdPlunge x = of(9, 3, "p0 p0 p0", "ab4 cb4");
        int[] warmth = {9, 9, 9, 13, 9, 6, 13, 14};
        for (int set = 0; set < 8; set++) {
            Check.due("warmth(" + set + ")", x.warmth(set), warmth[set]);
        }
        x.come(0);
        Check.due("whoever is in", x.warmth(5), 6);
        x.introduce(0, 2);
        Check.due("introduced", x.warmth(5), 10);
        Check.due("introduced", x.warmth(7), 18);
        Check.due("warmth(3)", x.warmth(3), 13);
        x.undo();
        Check.due("undone", x.warmth(7), 14);

        Sentences.ofPromise(9, "NONE: 1 (no PLUNGE);");
        Edge.withoutPlunge(y -> y.warmth(0), -1);

        Sentences.ofPromise(9, "2 (no such set).");
        Edge.company((y, set) -> y.warmth(set), -1);
    }

    private static void bear() {
        Sentences.ofPromise(10, "Those of a COMPANY who BEAR it.");
        ColdPlunge x = of(9, 3, "p9 p6 p14", "ab4 cb4");
        int[] bear = {0, 1, 2, 3, 0, 0, 2, 7};
        for (int set = 0; set < 8; set++) {
            Check.due("bear(" + set + ")", x.bear(set), bear[set]);
        }

        Sentences.ofPromise(10, "NONE: 1 (no PLUNGE);");
        Edge.withoutPlunge(y -> y.bear(0), -1);

        Sentences.ofPromise(10, "2.");
        Edge.company((y, set) -> y.bear(set), -1);
    }

    private static void iced() {
        Sentences.ofPromise(11, "1 if there is ice: WARMTH of who is in is below ice; else 0.");
        for (int ice : new int[] {0, 1, 9, 10, 11, 30}) {
            ColdPlunge x = Check.of(Texts.of(Texts.head(10, 1, ice, 0), "p0 p0"));
            Check.due("10 of nobody, ice " + ice, x.iced(), ice > 10 ? 1 : 0);
            x.come(0);
            Check.due("10 of one, ice " + ice, x.iced(), ice > 10 ? 1 : 0);
            x.come(1);
            Check.due("9 of two, ice " + ice, x.iced(), ice > 9 ? 1 : 0);
        }
        Check.due("0 isn't below 0", Check.of(Texts.of(Texts.head(0, 0, 0, 0), "p0")).iced(), 0);
        Check.due("0 is below 1", Check.of(Texts.of(Texts.head(0, 0, 1, 0), "p0")).iced(), 1);
        Check.due("60 isn't below 30", Check.of(Texts.of(Texts.head(60, 0, 30, 0), "p0")).iced(), 0);

        Sentences.ofPromise(11, "NONE: 1 (no PLUNGE).");
        Edge.withoutPlunge(y -> y.iced(), -1);
    }

    private static void stays() {
        Sentences.ofPromise(12, "Who is left of a COMPANY when nobody gets out any more.");
        ColdPlunge x = Check.of(PEELED);
        Check.due("nobody of nobody", x.stays(0), 0);
        Check.due("nobody of all", x.stays(63), 0);
        ColdPlunge y = Check.of(PEELED.replace("bather a plain bears 1", "bather a plain bears 0"));
        Check.due("one of all", y.stays(63), 1);
        ColdPlunge z = Check.of(PEELED.replace("bather f plain bears 16", "bather f plain bears 15"));
        Check.due("all of all", z.stays(63), 63);
        Check.due("without a", z.stays(62), 0);
        z.come(0);
        Check.due("nobody gets out by asking", z.company(), 1);
        Check.due("whoever is in", z.stays(63), 63);

        Sentences.ofPromise(12, "NONE: 1 (no PLUNGE);");
        Edge.withoutPlunge(w -> w.stays(0), -1);

        Sentences.ofPromise(12, "2.");
        Edge.company((w, set) -> w.stays(set), -1);
    }

    private static void minutes() {
        Sentences.ofPromise(13, "Behind how many MINUTES that is first.");
        ColdPlunge x = Check.of(PEELED);
        for (int many = 0; many <= 6; many++) {
            Check.due("the first " + many, x.minutes((1 << many) - 1), many);
        }
        ColdPlunge y = Check.of(PEELED.replace("bather a plain bears 1", "bather a plain bears 0"));
        Check.due("one stays", y.minutes(63), 5);
        Check.due("one alone", y.minutes(1), 0);
        ColdPlunge z = Check.of(PEELED.replace("bather f plain bears 16", "bather f plain bears 15"));
        Check.due("all stay", z.minutes(63), 0);
        Check.due("all at once", of(0, 0, "p1 p1 p1 p1 p1 p1", "").minutes(63), 1);
        Check.due("size(10) is of the bath alone", x.size(10), 0);

        Sentences.ofPromise(13, "NONE: likewise.");
        Edge.withoutPlunge(w -> w.minutes(0), -1);
        Edge.company((w, set) -> w.minutes(set), -1);
    }

    private static void spare() {
        Sentences.ofPromise(14, "By how much WARMTH of a COMPANY is above the greatest NEED in it, and 200;");
        ColdPlunge x = of(10, 2, "p10 p11 p9", "");
        Check.due("10 of 10", x.spare(1), 200);
        Check.due("10 of 11", x.spare(2), 199);
        Check.due("10 of 9", x.spare(4), 201);
        Check.due("8 of 11", x.spare(3), 197);
        Check.due("4 of 11", x.spare(7), 193);
        Check.due("0 of 104", of(0, 9, "t99 p0", "").spare(3), 96);
        ColdPlunge warmest = Check.of(WARMEST);
        Check.due("195 of 104", warmest.spare(63), 291);
        Check.due("150 of 0", warmest.spare(61), 350);

        Sentences.ofPromise(14, "of nobody: WARMTH and 200.");
        for (int warm : new int[] {0, 1, 60}) {
            Check.due("spare(0), warm " + warm, of(warm, 9, "p99", "").spare(0), 200 + warm);
        }

        Sentences.ofPromise(14, "NONE: 1 (no PLUNGE);");
        Edge.withoutPlunge(y -> y.spare(0), -1);

        Sentences.ofPromise(14, "2.");
        Edge.company((y, set) -> y.spare(set), -1);
    }

    private static void closest() {
        Sentences.ofPromise(15, "The two who know each other most NOW, the first two (10 times the lesser and the other one);");
        Check.due("one by 1", of(0, 0, "p0 p0 p0 p0 p0 p0", "fe1").closest(), 45);
        Check.due("the first two", of(0, 0, "p0 p0 p0 p0 p0 p0", "ba1").closest(), 1);
        Check.due("by 9, not by 8", of(0, 0, "p0 p0 p0 p0", "ab8 cd9").closest(), 23);
        Check.due("by 8 and 8: the lesser first", of(0, 0, "p0 p0 p0 p0", "cd8 bd8").closest(), 13);
        Check.due("the same lesser: the other first", of(0, 0, "p0 p0 p0 p0", "bd8 bc8").closest(), 12);
        Check.due("foes by 9 don't", of(0, 0, "p0 p0 p0 p0", "ab-9 cd1").closest(), 23);
        ColdPlunge x = of(0, 0, "p0 p0 p0", "ac1 bc1");
        Check.due("closest()", x.closest(), 2);
        x.introduce(0, 1);
        Check.due("introduced, by 1 too", x.closest(), 1);

        Sentences.ofPromise(15, "-2 nobody knows another one.");
        for (String text : new String[] {"", "ab-9", "ab?9"}) {
            ColdPlunge y = of(0, 0, "p0 p0", text);
            Check.refused(y, "closest() by " + text, y.closest(), -2, 0);
        }
        ColdPlunge one = of(0, 0, "p0", "");
        Check.refused(one, "closest() of one", one.closest(), -2, 0);

        Sentences.ofPromise(15, "NONE: 1 (no PLUNGE).");
        Edge.withoutPlunge(y -> y.closest(), -1);
    }

    private static void loneliest() {
        Sentences.ofPromise(16, "The bather who knows fewest NOW, the first such.");
        Check.due("one", of(0, 0, "p0", "").loneliest(), 0);
        Check.due("all alike", of(0, 0, "p0 p0 p0", "").loneliest(), 0);
        Check.due("the last", of(0, 0, "p0 p0 p0", "ab1").loneliest(), 2);
        Check.due("the first of b, c", of(0, 0, "p0 p0 p0", "ab9 ac9").loneliest(), 1);
        Check.due("how many, not by how much", of(0, 0, "p0 p0 p0 p0", "ab9 bc1 cd1 bd1 ad1 ac1").loneliest(), 0);
        Check.due("foes are none", of(0, 0, "p0 p0 p0", "ab1 bc1 ac-9").loneliest(), 0);
        Check.due("unsure ones are none", of(0, 0, "p0 p0 p0", "ab1 cb?1").loneliest(), 2);
        ColdPlunge x = of(0, 0, "p0 p0 p0 p0", "ab1 bc1 cd1");
        Check.due("loneliest()", x.loneliest(), 0);
        x.introduce(0, 2);
        Check.due("introduced", x.loneliest(), 3);

        Sentences.ofPromise(16, "NONE: 1 (no PLUNGE).");
        Edge.withoutPlunge(y -> y.loneliest(), -1);
    }

    private static void mates() {
        Sentences.ofPromise(17, "Whom he would BEAR to be with alone, as bits.");
        ColdPlunge x = of(10, 1, "p9 p10 p11 p12 p0 p99", "cb1 ad2 ae-2");
        // with others: a has 9 of b, 9 of c, 12 of d, 8 of e, 9 of f
        Check.due("mates(0)", x.mates(0), 2 + 4 + 8 + 32);
        Check.due("mates(1): 11 of c alone", x.mates(1), 4);
        Check.due("mates(2): 11 of b alone", x.mates(2), 2);
        Check.due("mates(3): 12 of a alone", x.mates(3), 1);
        Check.due("mates(4): all", x.mates(4), 47);
        Check.due("mates(5): none", x.mates(5), 0);
        Check.due("one has none", of(10, 1, "p0", "").mates(0), 0);
        x.come(4);
        Check.due("whoever is in", x.mates(1), 4);

        Sentences.ofPromise(17, "NONE: 1.");
        Edge.bather((y, b) -> y.mates(b), -1);
    }
}
