/** Terms IV, the constant, and promises 63 to 65: what is told, and why a call was refused. */
final class EdgesOfTold {
    private static final String SIX_FREE = "p0 p0 p0 p0 p0 p0";

    /** Each call that may be refused, as it isn't refused by twoIn(). */
    private static final Edge.Call[] MAY_BE_REFUSED = {
        x -> x.plunge(full(x)), x -> x.bather(0, 0), x -> x.ties(0, 1), x -> x.company(), x -> x.warmth(3), x -> x.bear(3), x -> x.iced(),
        x -> x.stays(3), x -> x.minutes(3), x -> x.spare(3), x -> x.closest(), x -> x.loneliest(), x -> x.mates(0), x -> x.most(),
        x -> x.mostWith(0), x -> x.warmest(1), x -> x.coldest(1), x -> x.bearsWith(0), x -> x.spoils(0), x -> x.mends(0), x -> x.comes(3),
        x -> x.comesAt(2, 0), x -> x.snugs(), x -> x.toCall(), x -> x.toSend(), x -> x.baths(), x -> x.bathOf(0), x -> x.canMeet(0, 1),
        x -> x.meetings(), x -> x.fewest(3), x -> x.firstMeeting(3), x -> x.between(0, 1), x -> x.circles(), x -> x.fits(), x -> x.fitAt(0),
        x -> x.could(), x -> x.surely(), x -> x.ask(), x -> x.askLeaves(), x -> x.chills(), x -> x.judge(), x -> x.rests(), x -> x.restAt(0),
        x -> x.swim(0, true, true, true), x -> x.evens(0), x -> x.even(0), x -> x.odds(0, true), x -> x.mean(true), x -> x.icy(true),
        x -> x.mornings(0, 0, 1), x -> x.waits(0, 1), x -> x.come(2), x -> x.get(0), x -> x.introduce(0, 2) ? 1 : 0, x -> x.minute(),
        x -> x.undo() ? 1 : 0, x -> x.image(), x -> x.back(0) ? 1 : 0
    };

    private EdgesOfTold() {
    }

    static void look() {
        troubleOfTerms();
        troublesByNumber();
        companiesOfTerms();
        constant();
        led();
        ledRefused();
        sizesTold();
        sizesNow();
        sizesOfActs();
        sizesOfNone();
        trouble();
        manyCalls();
    }

    private static ColdPlunge of(int warm, int chill, String bathers, String ties) {
        return Check.of(Texts.of(Texts.head(warm, chill, 0, 0), bathers, ties));
    }

    /** a, who doesn't bear it, and b are in; b knows a and c; there is an image. */
    private static ColdPlunge twoIn() {
        ColdPlunge x = of(5, 1, "p9 p0 p0", "ab1 bc1");
        x.come(0);
        x.come(1);
        x.image();
        return x;
    }

    private static int full(ColdPlunge x) {
        return Check.feedText(x, Texts.of(Texts.head(1, 1, 1, 1), "p1"));
    }

    private static void troubleOfTerms() {
        Sentences.ofTerms("IV", "TROUBLE of the latest call that may be refused (those of which a number is told here): 0 it wasn't;");
        for (int i = 0; i < MAY_BE_REFUSED.length; i++) {
            ColdPlunge x = twoIn();
            x.come(0);
            Check.due("trouble()", x.trouble(), 5);
            MAY_BE_REFUSED[i].on(x);
            Check.due("trouble() behind call " + i, x.trouble(), 0);
        }
        // those of which no number is told leave it alone, refused or not
        Edge.Call[] others = {x -> x.feed(0, 0, 0, 0, 0), x -> x.fault(), x -> x.where(), x -> Check.led(x, 0), x -> Check.led(x, 9),
            x -> x.size(4), x -> x.size(-1), x -> x.size(14), x -> x.trouble()};
        for (int i = 0; i < others.length; i++) {
            ColdPlunge x = twoIn();
            x.come(0);
            others[i].on(x);
            Check.due("trouble() behind other call " + i, x.trouble(), 5);
            x.company();
            others[i].on(x);
            Check.due("trouble() behind other call " + i, x.trouble(), 0);
        }
        ColdPlunge full = twoIn();
        Check.feedText(full, " ".repeat(900));
        full.come(0);
        Check.due("feed on a full tape", full.feed(0, 0, 0, 0, 0), -1);
        Check.due("trouble() behind it", full.trouble(), 5);
        full.company();
        Check.due("feed on a full tape", full.feed(0, 0, 0, 0, 0), -1);
        Check.due("trouble() behind it", full.trouble(), 0);
        Check.due("trouble() of no call yet", new ColdPlunge().trouble(), 0);
    }

    private static void troublesByNumber() {
        Sentences.ofTerms("IV", "1 there is none such;");
        Edge.refused(EdgesOfTold::twoIn, "no such bather", x -> x.bather(3, 0), -1, 1);
        Edge.refused(EdgesOfTold::twoIn, "no such fact", x -> x.bather(0, 7), -1, 1);
        Edge.refused(EdgesOfTold::twoIn, "no such image", x -> x.back(1) ? 1 : 0, 0, 1);
        Edge.refused(ColdPlunge::new, "no PLUNGE", x -> x.company(), -1, 1);
        Edge.taken(EdgesOfTold::twoIn, "such a bather", x -> x.bather(2, 6), 0);

        Sentences.ofTerms("IV", "2 a number;");
        Edge.refused(EdgesOfTold::twoIn, "no such set", x -> x.warmth(8), -1, 2);
        Edge.refused(EdgesOfTold::twoIn, "no so many", x -> x.warmest(4), -1, 2);
        Edge.refused(EdgesOfTold::twoIn, "no such longing", x -> x.swim(10, true, true, true), -100, 2);
        Edge.refused(EdgesOfTold::twoIn, "no such seed", x -> x.waits(65537, 0), -1, 2);
        Edge.refused(EdgesOfTold::twoIn, "no so many bytes", x -> x.plunge(1), -1, 2);
        Edge.taken(EdgesOfTold::twoIn, "such a set", x -> x.warmth(7), 6);

        Sentences.ofTerms("IV", "3 no room;");
        ColdPlunge x = twoIn();
        x.image();
        Check.refused(x, "room for a third image", x.image(), 2, 0);
        Check.refused(x, "no room for a fourth", x.image(), -1, 3);

        Sentences.ofTerms("IV", "4 a FAULT;");
        String[] texts = {"!", "plunge warm 61", "felt 0", Texts.head(0, 0, 0, 0)};
        int[] faults = {1, 4, 6, 6};
        for (int i = 0; i < texts.length; i++) {
            Check.refused(x, "plunge of " + texts[i], Check.tell(x, texts[i]), -1, 4);
            Check.due("fault()", x.fault(), faults[i]);
        }
        Check.refused(x, "a good one", Check.tell(x, Texts.of(Texts.head(0, 0, 0, 0), "p0")), 1, 0);

        Sentences.ofTerms("IV", "5 not so;");
        Edge.refused(EdgesOfTold::twoIn, "he is in", y -> y.come(0), -1, 5);
        Edge.refused(EdgesOfTold::twoIn, "he is out", y -> y.get(2), -1, 5);
        Edge.refused(EdgesOfTold::twoIn, "no STRANGERS", y -> y.introduce(0, 1) ? 1 : 0, 0, 5);
        Edge.taken(EdgesOfTold::twoIn, "he is out", y -> y.come(2), 6);

        Sentences.ofTerms("IV", "6 there is none.");
        Edge.refused(ColdPlunge::new, "nothing to undo", y -> y.undo() ? 1 : 0, 0, 6);
        Edge.refused(() -> of(5, 1, "p0 p0 p0", "ab1"), "nobody knows both", y -> y.introduce(0, 2) ? 1 : 0, 0, 6);
        Edge.taken(EdgesOfTold::twoIn, "somebody does", y -> y.introduce(0, 2) ? 1 : 0, 1);
    }

    private static void companiesOfTerms() {
        Sentences.ofTerms("IV", "COMPANIES are told as bits of bathers.");
        ColdPlunge x = of(5, 0, SIX_FREE, "");
        for (int b = 0; b < 6; b++) {
            x.come(b);
            Check.due("company()", x.company(), (2 << b) - 1);
            Check.due("bear(1 << " + b + ")", x.bear(1 << b), 1 << b);
        }
        for (int set = 0; set < 64; set++) {
            Check.refused(x, "bear(" + set + ")", x.bear(set), set, 0);
        }
        Check.refused(x, "bear(64)", x.bear(64), -1, 2);
        Check.refused(x, "bear(1 << 31)", x.bear(1 << 31), -1, 2);
    }

    private static void constant() {
        Sentences.ofConstant("`NONE = -1`: There is none; refused.");
        Check.due("NONE", ColdPlunge.NONE, -1);
        Check.due("company() without a plunge", new ColdPlunge().company(), ColdPlunge.NONE);
        Check.due("where() without a fault", new ColdPlunge().where(), ColdPlunge.NONE);
    }

    private static void led() {
        Sentences.ofPromise(63, "The i-th bather in, by numbers, who doesn't BEAR it.");
        ColdPlunge x = of(5, 0, "p6 p5 p6 p4 p99 p6", "");
        for (int b = 5; b >= 0; b--) {
            x.come(b);
        }
        int[] due = {0, 2, 4, 5};
        for (int i = 0; i < 4; i++) {
            Check.due("led(" + i + ")", Check.led(x, i), due[i]);
        }
        // who is out isn't one
        x.get(2);
        Check.due("led(1)", Check.led(x, 1), 4);
        Check.due("led(2)", Check.led(x, 2), 5);
        // he bears it NOW: 5 of 5, with a stranger 4 of 5, introduced 6
        ColdPlunge y = of(5, 1, "p5 p0 p0", "ac9 bc9");
        y.come(0);
        Check.due("nobody", Check.led(y, 0), -1000);
        y.come(1);
        Check.due("led(0)", Check.led(y, 0), 0);
        y.introduce(0, 1);
        Check.due("nobody", Check.led(y, 0), -1000);
        y.undo();
        Check.due("led(0)", Check.led(y, 0), 0);
        y.minute();
        Check.due("nobody", Check.led(y, 0), -1000);
    }

    private static void ledRefused() {
        Sentences.ofPromise(63, "NoSuchElementException if there is none such.");
        Check.due("without a plunge", Check.led(new ColdPlunge(), 0), -1000);
        Check.due("without a plunge", Check.led(new ColdPlunge(), -1), -1000);
        int[] wrong = {-1, -2, Integer.MIN_VALUE, 32, 64, Integer.MAX_VALUE};
        for (int many = 0; many <= 6; many++) {
            ColdPlunge x = of(0, 0, "p1 p1 p1 p1 p1 p1", "");
            for (int b = 0; b < many; b++) {
                x.come(b);
            }
            for (int i = 0; i < many; i++) {
                Check.due("led(" + i + ") of " + many, Check.led(x, i), i);
            }
            Check.due("led(" + many + ") of " + many, Check.led(x, many), -1000);
            for (int i : wrong) {
                Check.due("led(" + i + ") of " + many, Check.led(x, i), -1000);
            }
            Check.due("company()", x.company(), (1 << many) - 1);
        }
        ColdPlunge all = of(0, 0, SIX_FREE, "");
        all.come(0);
        Check.due("all bear it", Check.led(all, 0), -1000);
    }

    private static void sizesTold() {
        Sentences.ofPromise(64, "0 warm, 1 chill, 2 ice, 3 visits, 4 bathers,");
        int[][] heads = {{0, 0, 0, 0}, {60, 9, 30, 100}, {1, 2, 3, 4}};
        for (int[] head : heads) {
            ColdPlunge x = Check.of(Texts.of(Texts.head(head[0], head[1], head[2], head[3]), "p0 p0"));
            for (int what = 0; what < 4; what++) {
                Check.due("size(" + what + ")", x.size(what), head[what]);
            }
            Check.due("size(4)", x.size(4), 2);
        }
        for (int many = 1; many <= 6; many++) {
            Check.due("size(4)", of(0, 0, "p0" + " p0".repeat(many - 1), "").size(4), many);
        }

        Sentences.ofPromise(64, "7 unsure, 8 felt,");
        String[] unsure = {"", "ab?1", "ab?1 ac?1", "ab?1 ac?1 ad?1", "ab?1 ac?1 ad?1 ae?1"};
        String[] felt = {"", "0", "0 0ab", "0 1 2", "0 0 0 0abcdef"};
        for (int many = 0; many <= 4; many++) {
            ColdPlunge x = Check.of(Texts.of(Texts.head(0, 0, 0, 0), SIX_FREE, unsure[many], felt[4 - many]));
            Check.due("size(7)", x.size(7), many);
            Check.due("size(8)", x.size(8), 4 - many);
            Check.due("size(5)", x.size(5), 0);
            Check.due("size(6)", x.size(6), 0);
        }
        // an unsure pair that was introduced was told as unsure still
        ColdPlunge x = of(0, 0, "p0 p0 p0", "ab1 ac1 bc?1");
        x.introduce(1, 2);
        Check.due("size(7)", x.size(7), 1);
        Check.due("size(5)", x.size(5), 3);
    }

    private static void sizesNow() {
        Sentences.ofPromise(64, "5 pairs that know each other NOW, 6 foes,");
        String all = "ab1 ac1 ad1 ae1 af1 bc1 bd1 be1 bf1 cd1 ce1 cf1 de1 df1 ef1";
        Check.due("size(5) of all", of(0, 0, SIX_FREE, all).size(5), 15);
        Check.due("size(6) of none", of(0, 0, SIX_FREE, all).size(6), 0);
        String foes = "ab-1 ac-1 ad-1 ae-1 af-1 bc-1 bd-1 be-1 bf-1 cd-1 ce-1 cf-1 de-1 df-1 ef-1";
        Check.due("size(6) of all", of(0, 0, SIX_FREE, foes).size(6), 15);
        Check.due("size(5) of none", of(0, 0, SIX_FREE, foes).size(5), 0);
        Check.due("size(5) of one", of(0, 0, "p0", "").size(5), 0);
        ColdPlunge x = of(0, 0, SIX_FREE, "ab9 bc9 ef-9");
        Check.due("size(5)", x.size(5), 2);
        Check.due("size(6)", x.size(6), 1);
        x.introduce(0, 2);
        Check.due("size(5) introduced", x.size(5), 3);
        Check.due("size(6) introduced", x.size(6), 1);
        x.undo();
        Check.due("size(5) undone", x.size(5), 2);
    }

    private static void sizesOfActs() {
        Sentences.ofPromise(64, "9 INTRODUCTIONS so far, 10 MINUTES so far,");
        ColdPlunge x = twoIn();
        int[][] due = {{0, 0}, {0, 1}, {1, 1}, {1, 1}, {1, 2}, {1, 1}, {1, 1}, {0, 1}, {0, 0}};
        Edge.Call[] calls = {y -> y.size(9), y -> y.minute(), y -> y.introduce(0, 2) ? 1 : 0, y -> y.come(0), y -> y.minute(),
            y -> y.undo() ? 1 : 0, y -> y.undo() ? 1 : 0, y -> y.undo() ? 1 : 0, y -> y.back(0) ? 1 : 0};
        for (int i = 0; i < calls.length; i++) {
            calls[i].on(x);
            Check.due("size(9) behind call " + i, x.size(9), due[i][0]);
            Check.due("size(10) behind call " + i, x.size(10), due[i][1]);
        }
        // those that can't be undone any more count, too
        ColdPlunge many = of(0, 0, "p1", "");
        for (int i = 1; i <= 20; i++) {
            many.come(0);
            many.minute();
            many.minute();
            Check.due("size(10)", many.size(10), i);
        }

        Sentences.ofPromise(64, "11 ACTS that can be undone,");
        ColdPlunge acts = of(0, 0, "p0", "");
        for (int i = 0; i <= 20; i++) {
            Check.due("size(11)", acts.size(11), Math.min(16, i));
            if (i % 2 == 0) {
                acts.come(0);
            } else {
                acts.get(0);
            }
        }
        acts.undo();
        Check.due("size(11)", acts.size(11), 15);

        Sentences.ofPromise(64, "12 IMAGES,");
        for (int i = 0; i <= 4; i++) {
            Check.due("size(12)", acts.size(12), Math.min(3, i));
            acts.image();
        }

        Sentences.ofPromise(64, "13 bytes of THE TAPE.");
        for (int i = 0; i <= 46; i++) {
            Check.due("size(13)", acts.size(13), Math.min(900, 20 * i));
            acts.feed(0, 0, 0, 0, 0);
        }
        acts.plunge(901);
        Check.due("size(13)", acts.size(13), 900);
        acts.plunge(1);
        Check.due("size(13)", acts.size(13), 0);
    }

    private static void sizesOfNone() {
        Sentences.ofPromise(64, "NONE for others;");
        for (Edge.Maker maker : new Edge.Maker[] {ColdPlunge::new, Edge::one, Edge::four, Edge::six}) {
            ColdPlunge x = maker.make();
            for (int what : new int[] {-1, 14, 15, 32, Integer.MIN_VALUE, Integer.MAX_VALUE}) {
                Check.due("size(" + what + ")", x.size(what), -1);
            }
            for (int what = 0; what <= 13; what++) {
                Check.due("size(" + what + ") isn't NONE", x.size(what) >= 0, true);
            }
        }

        Sentences.ofPromise(64, "0 for what there isn't.");
        ColdPlunge none = new ColdPlunge();
        for (int what = 0; what <= 13; what++) {
            Check.due("size(" + what + ") without a plunge", none.size(what), 0);
        }
        Check.tell(none, "plunge warm 9 chill 9 ice 9 visits 9;bather a plain bears 9;felt 0,b");
        for (int what = 0; what <= 13; what++) {
            Check.due("size(" + what + ") behind a faulty text", none.size(what), 0);
        }
        ColdPlunge bare = of(0, 0, "p0", "");
        for (int what = 5; what <= 13; what++) {
            Check.due("size(" + what + ") of one alone", bare.size(what), 0);
        }
    }

    private static void trouble() {
        Sentences.ofPromise(65, "TROUBLE.");
        ColdPlunge x = new ColdPlunge();
        Check.due("of a new one", x.trouble(), 0);
        x.company();
        Check.due("1", x.trouble(), 1);
        Check.due("1 again", x.trouble(), 1);
        x.plunge(1);
        Check.due("2", x.trouble(), 2);
        Check.tell(x, "!");
        Check.due("4", x.trouble(), 4);
        x.undo();
        Check.due("6", x.trouble(), 6);
        Check.tell(x, Texts.of(Texts.head(0, 0, 0, 0), "p0"));
        Check.due("0", x.trouble(), 0);
        x.get(0);
        Check.due("5", x.trouble(), 5);
        for (int i = 0; i < 4; i++) {
            x.image();
        }
        Check.due("3", x.trouble(), 3);
        x.toSend();
        Check.due("-2 isn't refused", x.trouble(), 0);
    }

    /** An object stands 512 calls, and the last is answered as the first. */
    private static void manyCalls() {
        Check.part("at most 512 calls");
        ColdPlunge x = of(0, 0, "p1 p0", "");
        int minutes = 0;
        for (int calls = 20; calls + 3 <= 512; calls += 3) {
            Check.due("come(0)", x.come(0), 0);
            Check.due("minute()", x.minute(), 1);
            minutes++;
            Check.due("size(10)", x.size(10), minutes);
        }
        Check.due("company()", x.company(), 0);
    }
}
