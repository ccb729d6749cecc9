/** Promise by promise: what is due was worked out by hand from the document. */
public final class PromiseTests {
    /**
     * NEEDS 8, 9, 10, 12. Warm by bits: none and each alone 10; ab 13, ac 5, bc 14, ad 8, bd 8, cd 8;
     * abc 12, abd 9, acd 1, bcd 10; all 6. SNUG are none, a, b, c, ab, bc, abc.
     */
    private static final String FOUR = "plunge warm 10 chill 2 ice 5 visits 50;bather abe plain bears 8;bather bea tender bears 4;"
        + "bather cal hardy bears 15;bather dan plain bears 12;knows abe bea by 3;knows bea cal by 4;foes abe cal by 5;"
        + "unsure cal dan by 6;felt 8, abe, dan;felt 16, cal, dan";
    private static final String HEAD = "plunge warm 0 chill 0 ice 0 visits 0";
    private static final String THREE = HEAD + ";bather x plain bears 0;bather y plain bears 0;bather z plain bears 0";
    /** Six in a row, each of whom knows the next by 1; the first and the last bear 6, alone they have 5 and with each other 4. */
    private static final String ROW = "plunge warm 5 chill 1 ice 0 visits 25;bather a plain bears 6;bather b plain bears 0;"
        + "bather c plain bears 0;bather d plain bears 0;bather e plain bears 0;bather f plain bears 6;"
        + "knows a b by 1;knows b c by 1;knows d c by 1;knows d e by 1;knows f e by 1";

    private PromiseTests() {
    }

    public static void main(String[] args) {
        tape();
        plunges();
        faultsOfForm();
        faultsOfNames();
        faultsOfNumbers();
        bathers();
        now();
        companies();
        order();
        callAndSend();
        baths();
        introductions();
        felt();
        severalFits();
        rests();
        swimmers();
        visitors();
        mornings();
        acts();
        undoing();
        images();
        told();
        troubles();
        withoutPlunge();
        Check.end();
    }

    private static void tape() {
        Check.part("promise 2");
        ColdPlunge x = new ColdPlunge();
        for (int i = 1; i <= 45; i++) {
            Check.due("feed", x.feed(-1, 0, 1, Integer.MAX_VALUE, Integer.MIN_VALUE), 20 * i);
        }
        Check.due("feed beyond 900", x.feed(0, 0, 0, 0, 0), -1);
        Check.due("size(13)", x.size(13), 900);
        Check.due("trouble() of no call that may be refused", x.trouble(), 0);
        Check.due("plunge(901)", x.plunge(901), -1);
        Check.due("trouble()", x.trouble(), 2);
        Check.due("feed beyond 900", x.feed(0, 0, 0, 0, 0), -1);
        Check.due("trouble() stays behind feed()", x.trouble(), 2);
        Check.due("plunge(900)", x.plunge(900), -1);
        Check.due("feed behind a plunge", x.feed(0, 0, 0, 0, 0), 20);
        ColdPlunge y = new ColdPlunge();
        String padded = " ".repeat(900 - THREE.length()) + THREE;
        Check.due("a text of 900 bytes", Check.tell(y, padded), 3);
        // the highest byte first: "plun" is 0x706c756e
        ColdPlunge z = new ColdPlunge();
        z.feed(0x706c756e, 0x67652061, 0, 0, 0);
        z.plunge(8);
        Check.due("fault at the a", z.where(), 7);
    }

    private static void plunges() {
        Check.part("promise 3");
        ColdPlunge x = new ColdPlunge();
        Check.refused(x, "plunge(-1)", x.plunge(-1), -1, 2);
        Check.refused(x, "plunge(0)", x.plunge(0), -1, 4);
        Check.feedText(x, FOUR);
        int fed = x.size(13);
        Check.refused(x, "more than there is", x.plunge(fed + 1), -1, 2);
        Check.refused(x, "plunge(MIN)", x.plunge(Integer.MIN_VALUE), -1, 2);
        Check.due("the tape stays by 2", x.size(13), fed);
        Check.due("with blanks behind", x.plunge(fed), 4);
        Check.due("trouble()", x.trouble(), 0);
        Check.due("the tape is empty then", x.size(13), 0);
        x.come(0);
        x.come(1);
        x.image();
        Check.refused(x, "a faulty one", Check.tell(x, "plunge"), -1, 4);
        Check.due("the tape is empty by 4", x.size(13), 0);
        Check.due("company() stays by 4", x.company(), 3);
        Check.due("acts stay by 4", x.size(11), 2);
        Check.due("images stay by 4", x.size(12), 1);
        Check.due("size(4)", x.size(4), 4);
        Check.due("bather(2, 2)", x.bather(2, 2), 10);
        Check.due("felt stays by 4", x.judge(), 1);
        Check.due("another one", Check.tell(x, THREE), 3);
        Check.due("nobody in", x.company(), 0);
        Check.due("nothing to undo", x.undo(), false);
        Check.due("no images", x.back(0), false);
        Check.due("none of the old ties", x.ties(0, 1), 0);
        Check.due("none of the old felt", x.size(8), 0);
        Check.due("none of the old foes", x.size(6), 0);
        Check.feedText(x, FOUR + "  zzz");
        Check.due("the first bytes alone", x.plunge(FOUR.length()), 4);
        Check.feedText(x, THREE + ";felt 12345,xyz");
        Check.due("a whole cut short", x.plunge(THREE.length() + 8), 3);
        Check.due("judge() of 12", x.judge(), 0);
        Check.feedText(x, THREE + ";felt 0,xyz");
        Check.due("a word cut short", x.plunge(THREE.length() + 9), 3);
        Check.due("six in", Check.of(ROW).size(4), 6);
        Check.due("blanks mean nothing", Check.tell(x, "  plunge warm60chill9 ice  30visits100 ;bather plain plain bears 99; bather by hardy bears07 ;"
            + "bather warm tender bears 0;knows plain by by 9;felt 060 , warm,by "), 3);
        Check.due("bather(1, 1)", x.bather(1, 1), 7);
        Check.due("ties(1, 0)", x.ties(1, 0), 9);
    }

    private static void fault(String text, int fault, int where) {
        ColdPlunge x = new ColdPlunge();
        Check.due("plunge of " + text, Check.tell(x, text), -1);
        Check.due("trouble() of " + text, x.trouble(), 4);
        Check.due("fault() of " + text, x.fault(), fault);
        Check.due("where() of " + text, x.where(), where);
    }

    private static void faultAt(String before, String rest, int fault) {
        fault(before + rest, fault, before.length());
    }

    private static void faultsOfForm() {
        Check.part("promises 4 and 5, form");
        fault("", 1, 0);
        fault("   ", 1, 3);
        faultAt("", "x", 1);
        faultAt("  ", "Plunge", 1);
        faultAt("", ";", 1);
        faultAt("", "12", 1);
        faultAt("", "plunges", 1);
        faultAt("plunge ", "chill 3", 1);
        faultAt("plunge warm ", "x", 1);
        faultAt("plunge warm 0 chill 0 ice 0 ", "visit 0", 1);
        faultAt(HEAD, ",", 1);
        faultAt(HEAD + " ", "bather", 1);
        faultAt(HEAD + ";", ";", 1);
        fault(HEAD + ";", 1, HEAD.length() + 1);
        fault(HEAD + " ; ", 1, HEAD.length() + 3);
        faultAt(HEAD + ";bather ", "felt plain", 1);
        faultAt(HEAD + ";bather ", "knows plain", 1);
        faultAt(HEAD + ";bather ", "unsure plain", 1);
        faultAt(HEAD + ";bather ", "plunge plain", 1);
        faultAt(HEAD + ";bather ", "foes plain", 1);
        faultAt(HEAD + ";bather ", "bather plain", 1);
        faultAt(HEAD + ";bather ", "7 plain", 1);
        faultAt(HEAD + ";bather x ", "wet", 1);
        faultAt(HEAD + ";bather x plain ", "bear 0", 1);
        fault(HEAD + ";bather x plain bears ", 1, HEAD.length() + 22);
        faultAt(HEAD + ";bather ", "abcdefghi plain bears 0", 1);
        Check.due("eight letters", Check.tell(new ColdPlunge(), HEAD + ";bather abcdefgh plain bears 0"), 1);
        faultAt("plunge warm ", "0000 chill 0", 1);
        Check.due("three digits", Check.tell(new ColdPlunge(), HEAD + ";bather abcdefgh plain bears 099"), 1);
        faultAt(HEAD + ";bather ab", "C plain bears 0", 1);
        faultAt(HEAD + ";bather ab", "\t plain bears 0", 1);
        faultAt(HEAD + ";bather ab", (char) 200 + " plain bears 0", 1);
        faultAt(THREE + ";knows x y ", "7", 1);
        faultAt(THREE + ";knows x y by ", "y", 1);
        faultAt(THREE + ";knows x ", "bather by 3", 1);
        faultAt(THREE + ";foes ", "felt x by 3", 1);
        faultAt(THREE + ";felt ", "x", 1);
        faultAt(THREE + ";felt 3 ", "x", 1);
        faultAt(THREE + ";felt 3,", ",x", 1);
        faultAt(THREE + ";felt 3,", "3", 1);
        faultAt(THREE + ";felt 3,", "felt", 1);
        fault(THREE + ";felt 3,", 1, THREE.length() + 8);
        faultAt(THREE + ";", "swims x", 1);
        faultAt(THREE, ".", 1);
    }

    private static void faultsOfNames() {
        Check.part("promises 4 and 5, names");
        faultAt(THREE + ";knows ", "w x by 3", 2);
        faultAt(THREE + ";knows x ", "w by 3", 2);
        faultAt(THREE + ";foes ", "w w by 3", 2);
        faultAt(THREE + ";unsure ", "xy x by 3", 2);
        faultAt(THREE + ";felt 3,x,", "w", 2);
        faultAt(HEAD + ";felt 3,", "x;bather x plain bears 0", 2);
        faultAt(THREE + ";bather ", "x plain bears 0", 3);
        faultAt(THREE + ";bather ", "y plain bears 0", 3);
        faultAt(THREE + ";knows x ", "x by 3", 3);
        faultAt(THREE + ";unsure z ", "z by 3", 3);
        faultAt(THREE + ";knows x y by 1;knows x ", "y by 1", 3);
        faultAt(THREE + ";knows x y by 1;foes y ", "x by 1", 3);
        faultAt(THREE + ";foes x y by 1;unsure y ", "x by 1", 3);
        faultAt(THREE + ";unsure z y by 1;knows y ", "z by 1", 3);
        faultAt(THREE + ";unsure z y by 1;unsure z ", "y by 1", 3);
        faultAt(THREE + ";felt 3,x,y,", "x", 3);
        fault(THREE + ";felt 3,x,x", 3, THREE.length() + 10);
        faultAt(THREE + ";bather u plain bears 0;bather v plain bears 0;bather w plain bears 0;felt 0,x,y,z,u,v,w,", "y", 3);
        faultAt(THREE + ";", "plunge warm 0", 3);
        faultAt(HEAD + ";", "plunge", 3);
        Check.due("felt again by another felt", Check.tell(new ColdPlunge(), THREE + ";felt 0,x;felt 0,x"), 3);
        faultAt("", "bather x plain bears 0;" + HEAD, 6);
        faultAt(" ", "felt 0", 6);
        faultAt("", "knows", 6);
        faultAt("", "foes", 6);
        faultAt("", "unsure", 6);
        fault(HEAD, 6, HEAD.length());
        fault(HEAD + "  ", 6, HEAD.length() + 2);
        fault(HEAD + ";felt 3", 6, HEAD.length() + 7);
    }

    private static void faultsOfNumbers() {
        Check.part("promises 4 and 5, numbers");
        faultAt("plunge warm ", "61", 4);
        faultAt("plunge warm 60 chill ", "10", 4);
        faultAt("plunge warm 60 chill 9 ice ", "31", 4);
        faultAt("plunge warm 60 chill 9 ice 30 visits ", "101", 4);
        faultAt(HEAD + ";bather x plain bears ", "100", 4);
        faultAt(THREE + ";knows x y by ", "0", 4);
        faultAt(THREE + ";knows x y by ", "10", 4);
        faultAt(THREE + ";foes x y by ", "0", 4);
        faultAt(THREE + ";unsure x y by ", "10", 4);
        faultAt(THREE + ";felt ", "201", 4);
        Check.due("felt 200, by 9", Check.tell(new ColdPlunge(), THREE + ";felt 200;foes x y by 9"), 3);
        String six = THREE + ";bather u plain bears 0;bather v plain bears 0;bather w plain bears 99";
        faultAt(six + ";", "bather", 5);
        faultAt(six + ";", "bather x wet", 5);
        faultAt(six + ";unsure x y by 1;unsure x z by 1;unsure x u by 1;unsure x v by 1;", "unsure x x by 0", 5);
        faultAt(THREE + ";felt 0;felt 0;felt 0;felt 0;", "felt", 5);
        ColdPlunge x = new ColdPlunge();
        Check.due("room for all", Check.tell(x, six + ";unsure x y by 1;unsure x z by 1;unsure x u by 1;unsure x v by 1"
            + ";felt 0;felt 0;felt 0;felt 0,x,y,z,u,v,w"), 6);
        Check.due("fault() without one", x.fault(), 0);
        Check.due("where() without one", x.where(), -1);
        Check.tell(x, "plunge warm 61");
        Check.due("where()", x.where(), 12);
        Check.due("where() again", x.where(), 12);
        x.size(4);
        x.feed(0, 0, 0, 0, 0);
        Check.due("where() behind calls that can't be refused", x.where(), 12);
        x.company();
        Check.due("where() behind one that may be", x.where(), -1);
        Check.due("fault() stays", x.fault(), 4);
        x.plunge(-1);
        Check.due("fault() stays by 2", x.fault(), 4);
        Check.due("where() by 2", x.where(), -1);
        x.plunge(0);
        Check.due("fault() of no bytes", x.fault(), 1);
        Check.tell(x, THREE);
        Check.due("fault() of a good one", x.fault(), 0);
    }

    private static void bathers() {
        Check.part("promise 6");
        ColdPlunge x = Check.of(FOUR + ";bather eve hardy bears 4");
        int[] kinds = {0, 1, 2, 0, 2};
        int[] bears = {8, 4, 15, 12, 4};
        int[] needs = {8, 9, 10, 12, 0};
        int[] knows = {2, 5, 2, 0, 0};
        int[] foes = {4, 0, 1, 0, 0};
        for (int b = 0; b < 5; b++) {
            Check.due("kind of " + b, x.bather(b, 0), kinds[b]);
            Check.due("bears of " + b, x.bather(b, 1), bears[b]);
            Check.due("need of " + b, x.bather(b, 2), needs[b]);
            Check.due("in of " + b, x.bather(b, 3), 0);
            Check.due("known to " + b, x.bather(b, 4), knows[b]);
            Check.due("foes of " + b, x.bather(b, 5), foes[b]);
            Check.due("bears it of " + b, x.bather(b, 6), 0);
        }
        x.come(0);
        x.come(3);
        Check.due("abe is in", x.bather(0, 3), 1);
        Check.due("abe bears 8", x.bather(0, 6), 1);
        Check.due("dan doesn't", x.bather(3, 6), 0);
        Check.due("eve is out", x.bather(4, 6), 0);
        Check.due("dan is in", x.bather(3, 3), 1);
        Check.due("bea is out", x.bather(1, 3), 0);
        x.get(3);
        x.come(1);
        Check.due("bea bears 13", x.bather(1, 6), 1);
        Check.refused(x, "bather(5, 0)", x.bather(5, 0), -1, 1);
        Check.refused(x, "bather(-1, 0)", x.bather(-1, 0), -1, 1);
        Check.refused(x, "bather(0, 7)", x.bather(0, 7), -1, 1);
        Check.refused(x, "bather(0, -1)", x.bather(0, -1), -1, 1);
        Check.part("promise 7");
        Check.due("ties(0, 1)", x.ties(0, 1), 3);
        Check.due("ties(2, 1)", x.ties(2, 1), 4);
        Check.due("ties(2, 0)", x.ties(2, 0), -5);
        Check.due("ties(2, 3), unsure", x.ties(2, 3), 0);
        Check.refused(x, "ties(0, 0)", x.ties(0, 0), -100, 1);
        Check.refused(x, "ties(0, 5)", x.ties(0, 5), -100, 1);
        Check.refused(x, "ties(-1, 0)", x.ties(-1, 0), -100, 1);
    }

    private static void now() {
        ColdPlunge x = Check.of(FOUR);
        Check.part("promises 9, 10");
        int[] warmth = {10, 10, 10, 13, 10, 5, 14, 12, 10, 8, 8, 9, 8, 1, 10, 6};
        int[] bear = {0, 1, 2, 3, 4, 0, 6, 7, 0, 1, 0, 3, 0, 0, 6, 0};
        int[] stays = {0, 1, 2, 3, 4, 0, 6, 7, 0, 1, 0, 3, 0, 0, 6, 0};
        int[] minutes = {0, 0, 0, 0, 0, 1, 0, 0, 1, 1, 1, 1, 1, 1, 1, 1};
        int[] greatest = {0, 8, 9, 9, 10, 10, 10, 10, 12, 12, 12, 12, 12, 12, 12, 12};
        for (int set = 0; set < 16; set++) {
            Check.due("warmth(" + set + ")", x.warmth(set), warmth[set]);
            Check.due("bear(" + set + ")", x.bear(set), bear[set]);
            Check.due("stays(" + set + ")", x.stays(set), stays[set]);
            Check.due("minutes(" + set + ")", x.minutes(set), minutes[set]);
            Check.due("spare(" + set + ")", x.spare(set), warmth[set] - greatest[set] + 200);
        }
        Check.due("company()", x.company(), 0);
        Check.due("iced(): 10 isn't below 5", x.iced(), 0);
        x.come(0);
        x.come(2);
        Check.due("company()", x.company(), 5);
        Check.due("iced(): 5 isn't below 5", x.iced(), 0);
        x.come(3);
        Check.due("iced(): 1 is", x.iced(), 1);
        Check.due("closest()", x.closest(), 12);
        Check.due("loneliest()", x.loneliest(), 3);
        Check.due("mates(0)", x.mates(0), 10);
        Check.due("mates(1): 13, 14, 8", x.mates(1), 5);
        Check.due("mates(2): 5, 14, 8", x.mates(2), 2);
        Check.due("mates(3)", x.mates(3), 0);
        Check.refused(x, "mates(4)", x.mates(4), -1, 1);
        Check.refused(x, "mates(-1)", x.mates(-1), -1, 1);
        for (int set : new int[] {16, -1, Integer.MIN_VALUE, Integer.MAX_VALUE, 64}) {
            Check.refused(x, "warmth(" + set + ")", x.warmth(set), -1, 2);
            Check.refused(x, "bear(" + set + ")", x.bear(set), -1, 2);
            Check.refused(x, "stays(" + set + ")", x.stays(set), -1, 2);
            Check.refused(x, "minutes(" + set + ")", x.minutes(set), -1, 2);
            Check.refused(x, "spare(" + set + ")", x.spare(set), -1, 2);
        }
        minuteByMinute();
        bounds();
        likeOnes();
    }

    /** 12 with all: c gets out, then 9: b does, then 7: a stays. */
    private static void minuteByMinute() {
        Check.part("promises 12, 13");
        ColdPlunge x = Check.of("plunge warm 7 chill 0 ice 0 visits 0;bather a plain bears 7;bather b plain bears 10;bather c plain bears 13;"
            + "knows a b by 2;knows b c by 3");
        Check.due("stays(7)", x.stays(7), 1);
        Check.due("minutes(7)", x.minutes(7), 2);
        Check.due("bear(7)", x.bear(7), 3);
        Check.due("minutes(1)", x.minutes(1), 0);
    }

    private static void bounds() {
        Check.part("promise 9, bounds");
        ColdPlunge x = Check.of("plunge warm 3 chill 9 ice 30 visits 0;bather a plain bears 0;bather b plain bears 1;bather c hardy bears 3;foes a b by 9");
        Check.due("0 at least", x.warmth(7), 0);
        Check.due("0 at least of two", x.warmth(3), 0);
        Check.due("who bears 0", x.bear(7), 5);
        Check.due("spare(7)", x.spare(7), 199);
        Check.due("iced() with nobody", x.iced(), 1);
        Check.due("warmest(2): all 0", x.warmest(2), 3);
        Check.due("coldest(2): all 0", x.coldest(2), 3);
        ColdPlunge y = Check.of("plunge warm 60 chill 0 ice 30 visits 0;bather a plain bears 99;bather b tender bears 99;bather c plain bears 0;"
            + "bather d plain bears 0;bather e plain bears 0;bather f plain bears 0;knows a b by 9;knows a c by 9;knows a d by 9;knows a e by 9;"
            + "knows a f by 9;knows b c by 9;knows b d by 9;knows b e by 9;knows b f by 9;knows c d by 9;knows c e by 9;knows c f by 9;"
            + "knows d e by 9;knows d f by 9;knows e f by 9");
        Check.due("all know each other by 9", y.warmth(63), 195);
        Check.due("NEED of 104", y.bather(1, 2), 104);
        Check.due("spare(63)", y.spare(63), 291);
        Check.due("spare(2)", y.spare(2), 156);
    }

    private static void likeOnes() {
        Check.part("promises 15, 16");
        ColdPlunge x = Check.of(THREE);
        Check.due("closest() of strangers", x.closest(), -2);
        Check.due("trouble() then", x.trouble(), 0);
        Check.due("loneliest(), all alike", x.loneliest(), 0);
        x = Check.of(THREE + ";knows y z by 2;knows z x by 2;foes x y by 9");
        Check.due("closest() of like ones", x.closest(), 2);
        Check.due("loneliest() of like ones", x.loneliest(), 0);
        Check.due("closest() by 1", Check.of(THREE + ";knows y z by 1").closest(), 12);
        x = Check.of(THREE + ";knows x y by 9;knows x z by 9");
        Check.due("loneliest() is the first of 1 and 2", x.loneliest(), 1);
    }

    private static void companies() {
        ColdPlunge x = Check.of(FOUR);
        Check.part("promises 18 to 21");
        Check.due("most()", x.most(), 7);
        Check.due("mostWith(0)", x.mostWith(0), 7);
        Check.due("mostWith(3)", x.mostWith(3), -2);
        Check.due("trouble() of -2", x.trouble(), 0);
        Check.refused(x, "mostWith(4)", x.mostWith(4), -1, 1);
        int[] warmest = {0, 1, 6, 7, 15};
        int[] coldest = {0, 1, 5, 13, 15};
        for (int many = 0; many <= 4; many++) {
            Check.due("warmest(" + many + ")", x.warmest(many), warmest[many]);
            Check.due("coldest(" + many + ")", x.coldest(many), coldest[many]);
        }
        for (int many : new int[] {-1, 5, Integer.MAX_VALUE, Integer.MIN_VALUE}) {
            Check.refused(x, "warmest(" + many + ")", x.warmest(many), -1, 2);
            Check.refused(x, "coldest(" + many + ")", x.coldest(many), -1, 2);
        }
        Check.part("promises 22 to 24");
        Check.due("bearsWith(0)", x.bearsWith(0), 0);
        Check.due("bearsWith(3)", x.bearsWith(3), -2);
        int[] spoils = {1, 0, 1, 7};
        int[] mends = {0, 1, 0, 0};
        for (int b = 0; b < 4; b++) {
            Check.due("spoils(" + b + ")", x.spoils(b), spoils[b]);
            Check.due("mends(" + b + ")", x.mends(b), mends[b]);
        }
        Check.part("promise 27");
        Check.due("snugs()", x.snugs(), 7);
        for (int b : new int[] {-1, 4, 31, 32, Integer.MIN_VALUE}) {
            Check.refused(x, "bearsWith(" + b + ")", x.bearsWith(b), -1, 1);
            Check.refused(x, "spoils(" + b + ")", x.spoils(b), -1, 1);
            Check.refused(x, "mends(" + b + ")", x.mends(b), -1, 1);
        }
        pairsNeeded();
    }

    /** Alone each has 5; x and y, y and z have 8, x and z 3; all three 9. x needs 8, y 0, z 9. */
    private static void pairsNeeded() {
        ColdPlunge x = Check.of("plunge warm 5 chill 2 ice 0 visits 0;bather x plain bears 8;bather y plain bears 0;bather z plain bears 9;"
            + "knows x y by 3;knows y z by 3");
        Check.part("promise 22");
        Check.due("bearsWith(0): y", x.bearsWith(0), 2);
        Check.due("bearsWith(2): both", x.bearsWith(2), 3);
        Check.due("bearsWith(1): nobody", x.bearsWith(1), 0);
        Check.part("promises 18, 19, 27");
        Check.due("most()", x.most(), 7);
        Check.due("mostWith(2)", x.mostWith(2), 7);
        Check.due("snugs(): none, y, xy, all", x.snugs(), 4);
        Check.part("promises 23, 24");
        Check.due("spoils(0): of none", x.spoils(0), 1);
        Check.due("mends(0): yz", x.mends(0), 1);
        Check.due("mends(2)", x.mends(2), 0);
        Check.due("spoils(2): of none, of y", x.spoils(2), 2);
        Check.part("promises 25, 26");
        Check.due("comes(7): y, x, z", x.comes(7), 1);
        Check.due("comesAt(7, 0)", x.comesAt(7, 0), 1);
        Check.due("comesAt(7, 1)", x.comesAt(7, 1), 0);
        Check.due("comesAt(7, 2)", x.comesAt(7, 2), 2);
        Check.due("comes(6)", x.comes(6), 0);
        ColdPlunge frozen = Check.of("plunge warm 0 chill 0 ice 0 visits 0;bather x plain bears 1;bather y plain bears 1");
        Check.due("most() is nobody", frozen.most(), 0);
        Check.due("snugs() is nobody", frozen.snugs(), 1);
        ColdPlunge like = Check.of("plunge warm 9 chill 9 ice 0 visits 0;bather x plain bears 1;bather y plain bears 1;bather z plain bears 1");
        Check.due("most() of like ones", like.most(), 1);
        Check.due("mostWith(2)", like.mostWith(2), 4);
        ColdPlunge choice = Check.of("plunge warm 0 chill 0 ice 0 visits 0;bather x plain bears 1;bather y plain bears 1;bather z plain bears 1;"
            + "knows x z by 1;knows y x by 1");
        Check.due("bearsWith(0) of like ones the least bits", choice.bearsWith(0), 2);
        Check.due("bearsWith(2)", choice.bearsWith(2), 1);
    }

    private static void order() {
        Check.part("promises 25, 26");
        ColdPlunge x = Check.of(FOUR);
        Check.due("comes(0)", x.comes(0), 1);
        Check.refused(x, "comesAt(0, 0)", x.comesAt(0, 0), -1, 1);
        Check.due("comes(7)", x.comes(7), 1);
        for (int i = 0; i < 3; i++) {
            Check.due("comesAt(7, " + i + ")", x.comesAt(7, i), i);
        }
        Check.refused(x, "comesAt(7, 3)", x.comesAt(7, 3), -1, 1);
        Check.refused(x, "comesAt(7, -1)", x.comesAt(7, -1), -1, 1);
        Check.due("comes(5)", x.comes(5), 0);
        Check.refused(x, "comesAt(5, 0)", x.comesAt(5, 0), -1, 1);
        Check.refused(x, "comes(16)", x.comes(16), -1, 2);
        Check.refused(x, "comes(-1)", x.comes(-1), -1, 2);
        Check.refused(x, "comesAt(16, 0)", x.comesAt(16, 0), -1, 2);
        Check.refused(x, "comesAt(-1, 0)", x.comesAt(-1, 0), -1, 2);
        // both bear it together, but neither alone
        ColdPlunge y = Check.of("plunge warm 1 chill 0 ice 0 visits 0;bather x plain bears 2;bather y plain bears 2;knows x y by 1");
        Check.due("comes(3)", y.comes(3), 0);
        Check.due("most()", y.most(), 3);
    }

    private static void callAndSend() {
        ColdPlunge x = Check.of(FOUR);
        Check.part("promises 28, 29");
        Check.due("toSend() of nobody", x.toSend(), -2);
        Check.due("trouble()", x.trouble(), 0);
        Check.due("toCall(): all 10", x.toCall(), 0);
        x.come(0);
        Check.due("toCall(): 13, 5, 8", x.toCall(), 1);
        Check.due("toSend()", x.toSend(), 0);
        x.come(2);
        Check.due("toCall(): 12, 1", x.toCall(), 1);
        Check.due("toSend(): 10, 10", x.toSend(), 0);
        x.come(3);
        Check.due("toSend(): without a 8, c 8, d 5", x.toSend(), 0);
        x.come(1);
        Check.due("toCall(), all in", x.toCall(), -2);
        Check.due("toSend(): 10, 1, 9, 12", x.toSend(), 3);
        ColdPlunge y = Check.of(HEAD + ";bather x plain bears 0;bather y plain bears 0;bather z plain bears 0;foes x y by 3");
        y.come(1);
        Check.due("toCall(): all 0", y.toCall(), 0);
        y.come(0);
        y.come(2);
        Check.due("toSend(): 0, 0, 0", y.toSend(), 0);
    }

    private static void baths() {
        Check.part("promises 30, 31");
        ColdPlunge x = Check.of(FOUR);
        Check.due("baths(): dan bears none", x.baths(), -2);
        Check.due("trouble()", x.trouble(), 0);
        Check.due("bathOf(0)", x.bathOf(0), -2);
        Check.refused(x, "bathOf(4)", x.bathOf(4), -1, 1);
        Check.refused(x, "bathOf(-1)", x.bathOf(-1), -1, 1);
        // two may be together, three not: like ones 0 0 1 1, 0 1 0 1, 0 1 1 0
        ColdPlunge y = Check.of("plunge warm 9 chill 4 ice 0 visits 0;bather a plain bears 5;bather b plain bears 5;bather c plain bears 5;bather d plain bears 5");
        Check.due("baths()", y.baths(), 2);
        for (int b = 0; b < 4; b++) {
            Check.due("bathOf(" + b + ")", y.bathOf(b), b / 2);
        }
        // a and b can't, so 0 1 0 1 is the first
        ColdPlunge z = Check.of("plunge warm 9 chill 4 ice 0 visits 0;bather a plain bears 5;bather b plain bears 5;bather c plain bears 5;"
            + "bather d plain bears 5;foes a b by 5");
        Check.due("baths()", z.baths(), 2);
        for (int b = 0; b < 4; b++) {
            Check.due("bathOf(" + b + ")", z.bathOf(b), b % 2);
        }
        Check.due("baths() of one", Check.of(THREE).baths(), 1);
        Check.due("bathOf() of one", Check.of(THREE).bathOf(2), 0);
        ColdPlunge w = Check.of("plunge warm 1 chill 9 ice 0 visits 0;bather a plain bears 1;bather b plain bears 1;bather c plain bears 1;"
            + "bather d plain bears 1;bather e plain bears 1;bather f plain bears 1");
        Check.due("baths() of six alone", w.baths(), 6);
        Check.due("bathOf(5)", w.bathOf(5), 5);
    }

    private static void introductions() {
        ColdPlunge x = Check.of(ROW);
        Check.part("promises 32, 33");
        Check.due("canMeet(0, 2)", x.canMeet(0, 2), 1);
        Check.due("canMeet(2, 0)", x.canMeet(2, 0), 1);
        Check.due("canMeet(0, 1) who know each other", x.canMeet(0, 1), 0);
        Check.due("canMeet(0, 3) whom nobody knows", x.canMeet(0, 3), 0);
        Check.refused(x, "canMeet(0, 0)", x.canMeet(0, 0), -1, 1);
        Check.refused(x, "canMeet(0, 6)", x.canMeet(0, 6), -1, 1);
        Check.refused(x, "canMeet(-1, 0)", x.canMeet(-1, 0), -1, 1);
        Check.due("meetings()", x.meetings(), 4);
        Check.part("promises 34, 35");
        Check.due("fewest(0)", x.fewest(0), 0);
        Check.due("firstMeeting(0)", x.firstMeeting(0), -2);
        Check.due("fewest(33): four would be", x.fewest(33), -2);
        Check.due("firstMeeting(33)", x.firstMeeting(33), -2);
        Check.due("fewest(1): none helps", x.fewest(1), -2);
        Check.due("fewest(3): 6 is enough", x.fewest(3), 0);
        Check.due("fewest(5): one", x.fewest(5), 1);
        Check.due("firstMeeting(5)", x.firstMeeting(5), 2);
        Check.due("fewest(9): a c, a d", x.fewest(9), 2);
        Check.due("firstMeeting(9)", x.firstMeeting(9), 2);
        Check.due("fewest(17): a c, a d, a e", x.fewest(17), 3);
        Check.due("firstMeeting(17)", x.firstMeeting(17), 2);
        Check.due("fewest(40): d f", x.fewest(40), 1);
        Check.due("firstMeeting(40)", x.firstMeeting(40), 35);
        Check.due("fewest(34): b d, b e, b f", x.fewest(34), 3);
        Check.due("firstMeeting(34)", x.firstMeeting(34), 13);
        Check.refused(x, "fewest(64)", x.fewest(64), -1, 2);
        Check.refused(x, "fewest(-1)", x.fewest(-1), -1, 2);
        Check.refused(x, "firstMeeting(64)", x.firstMeeting(64), -1, 2);
        Check.refused(x, "firstMeeting(-1)", x.firstMeeting(-1), -1, 2);
        Check.part("promises 36, 37");
        Check.due("between(0, 1)", x.between(0, 1), 0);
        Check.due("between(0, 5)", x.between(0, 5), 4);
        Check.due("between(5, 2)", x.between(5, 2), 2);
        Check.due("circles()", x.circles(), 1);
        Check.refused(x, "between(2, 2)", x.between(2, 2), -1, 1);
        Check.refused(x, "between(6, 2)", x.between(6, 2), -1, 1);
        ColdPlunge y = Check.of(FOUR);
        Check.due("between(0, 2), foes", y.between(0, 2), 1);
        Check.due("between(0, 3)", y.between(0, 3), -2);
        Check.due("trouble()", y.trouble(), 0);
        Check.due("circles()", y.circles(), 2);
        Check.due("canMeet(0, 2), foes", y.canMeet(0, 2), 0);
        Check.due("meetings()", y.meetings(), 0);
        Check.due("circles() of strangers", Check.of(THREE).circles(), 3);
        rowsOfIntroductions();
        Check.part("promise 58");
        introduce(x, y);
    }

    private static void rowsOfIntroductions() {
        Check.part("promises 34, 35, rows");
        String head = "plunge warm 5 chill 2 ice 0 visits 0;bather p plain bears 0;bather q plain bears 6;bather r plain bears 6;bather s plain bears 0;";
        // p r by s, then q r by p; or q s by p, then q r by s
        Check.due("firstMeeting(6)", Check.of(head + "knows p s by 1;knows r s by 1;knows p q by 1").firstMeeting(6), 2);
        // foes can't be introduced, so p r is none, and q s by p is the first
        Check.due("firstMeeting(6), foes", Check.of(head + "knows p s by 1;knows r s by 1;knows p q by 1;foes p r by 1").firstMeeting(6), 13);
        ColdPlunge x = Check.of(head + "knows s q by 1;knows s r by 1");
        Check.due("firstMeeting(6), neighbours by number", x.firstMeeting(6), 12);
        Check.due("fewest(6)", x.fewest(6), 1);
        Check.due("meetings()", x.meetings(), 1);
        ColdPlunge y = Check.of("plunge warm 9 chill 2 ice 0 visits 0;bather p plain bears 4;bather q plain bears 12;bather r plain bears 4;bather s plain bears 4;"
            + "knows s p by 1;knows s q by 1;knows s r by 1");
        // all: 9 and 3 less 6 is 6; each introduction 3 more
        Check.due("fewest(15)", y.fewest(15), 2);
        Check.due("firstMeeting(15)", y.firstMeeting(15), 1);
        y.introduce(0, 1);
        Check.due("fewest(15)", y.fewest(15), 1);
        y.introduce(0, 2);
        Check.due("fewest(15)", y.fewest(15), 0);
        Check.due("firstMeeting(15)", y.firstMeeting(15), -2);
        // three are needed, three there are; a need more, and they aren't enough
        Check.due("fewest(15)", Check.of("plunge warm 9 chill 2 ice 0 visits 0;bather p plain bears 4;bather q plain bears 15;bather r plain bears 4;"
            + "bather s plain bears 4;knows s p by 1;knows s q by 1;knows s r by 1").fewest(15), 3);
        Check.due("fewest(15)", Check.of("plunge warm 9 chill 2 ice 0 visits 0;bather p plain bears 4;bather q plain bears 16;bather r plain bears 4;"
            + "bather s plain bears 4;knows s p by 1;knows s q by 1;knows s r by 1").fewest(15), -2);
        // below 0 first: 1 less 9 and 10 more is 2
        ColdPlunge z = Check.of("plunge warm 1 chill 9 ice 0 visits 0;bather p plain bears 1;bather q plain bears 0;bather r plain bears 0;knows p r by 1;knows q r by 1");
        Check.due("fewest(3)", z.fewest(3), 1);
        Check.due("fewest(3), who need nothing", Check.of("plunge warm 1 chill 9 ice 0 visits 0;bather p plain bears 0;bather q plain bears 0").fewest(3), 0);
    }

    private static void introduce(ColdPlunge x, ColdPlunge four) {
        Check.due("introduce(2, 0)", x.introduce(2, 0), true);
        Check.due("trouble()", x.trouble(), 0);
        Check.due("ties(0, 2)", x.ties(0, 2), 1);
        Check.due("ties(2, 0)", x.ties(2, 0), 1);
        Check.due("bather(0, 4)", x.bather(0, 4), 6);
        Check.due("warmth(5)", x.warmth(5), 6);
        Check.due("canMeet(0, 3)", x.canMeet(0, 3), 1);
        Check.due("between(0, 5)", x.between(0, 5), 3);
        Check.due("fewest(33): three now", x.fewest(33), 3);
        Check.due("firstMeeting(33): a d, a e, a f", x.firstMeeting(33), 3);
        Check.due("size(9)", x.size(9), 1);
        Check.due("size(5)", x.size(5), 6);
        Check.refused(x, "introduce(0, 2)", x.introduce(0, 2), 5);
        Check.refused(x, "introduce(0, 1)", x.introduce(0, 1), 5);
        Check.refused(x, "introduce(0, 4)", x.introduce(0, 4), 6);
        Check.refused(x, "introduce(0, 0)", x.introduce(0, 0), 1);
        Check.refused(x, "introduce(0, 6)", x.introduce(0, 6), 1);
        Check.refused(x, "introduce(-1, 0)", x.introduce(-1, 0), 1);
        Check.refused(four, "introduce(0, 2), foes", four.introduce(0, 2), 5);
        Check.due("refused ones are no acts", x.size(11), 1);
    }

    private static void felt() {
        ColdPlunge x = Check.of(FOUR);
        Check.part("promises 38 to 45");
        Check.due("fits()", x.fits(), 1);
        Check.due("fitAt(0)", x.fitAt(0), 1);
        Check.refused(x, "fitAt(1)", x.fitAt(1), -1, 1);
        Check.refused(x, "fitAt(-1)", x.fitAt(-1), -1, 1);
        Check.due("could()", x.could(), 1);
        Check.due("surely()", x.surely(), 1);
        Check.due("ask()", x.ask(), 0);
        Check.due("askLeaves()", x.askLeaves(), 1);
        Check.due("chills(): 16 is none by strangers", x.chills(), 0);
        Check.due("judge()", x.judge(), 1);
        ColdPlunge y = Check.of("plunge warm 10 chill 3 ice 0 visits 0;bather a plain bears 0;bather b plain bears 0;bather c plain bears 0;"
            + "knows a b by 2;felt 8,a,b,c;felt 8,a,c");
        Check.due("chills(): 12 less two chills is 8, 10 less one is 8", y.chills(), 4);
        Check.due("judge(): 6 isn't 8", y.judge(), 0);
        Check.due("fits() without unsure ones", y.fits(), 0);
        Check.due("could()", y.could(), 0);
        Check.due("surely() without a set", y.surely(), 0);
        Check.due("ask() without fits", y.ask(), -2);
        Check.due("askLeaves() without fits", y.askLeaves(), -2);
        Check.due("trouble()", y.trouble(), 0);
        Check.refused(y, "fitAt(0)", y.fitAt(0), -1, 1);
        ColdPlunge z = Check.of("plunge warm 10 chill 7 ice 0 visits 0;bather a plain bears 0;bather b plain bears 0;bather c plain bears 0;felt 0,a,b,c;felt 10;felt 10,b");
        Check.due("chills(): 4 to 9 make 0", z.chills(), 1008);
        Check.due("judge(): all so", z.judge(), -2);
        Check.due("fits()", z.fits(), 1);
        Check.due("fitAt(0)", z.fitAt(0), 0);
        Check.due("ask() without unsure ones", z.ask(), -2);
        Check.due("askLeaves() without unsure ones", z.askLeaves(), -2);
        Check.due("chills() of nothing felt", Check.of(THREE).chills(), 1023);
        ColdPlunge w = Check.of("plunge warm 10 chill 3 ice 0 visits 0;bather a plain bears 0;bather b plain bears 0;unsure a b by 2;felt 7,a,b");
        Check.due("fits() by strangers", w.fits(), 1);
        Check.due("fitAt(0)", w.fitAt(0), 0);
        Check.due("could()", w.could(), 0);
        Check.due("surely()", w.surely(), 0);
        Check.due("ask()", w.ask(), 0);
        Check.due("askLeaves()", w.askLeaves(), 1);
        ColdPlunge v = Check.of("plunge warm 10 chill 3 ice 0 visits 0;bather a plain bears 0;bather b plain bears 0;unsure a b by 2;felt 8,a,b");
        Check.due("ask() without fits", v.ask(), -2);
        Check.due("askLeaves() without fits", v.askLeaves(), -2);
        Check.due("surely() without a set", v.surely(), 0);
        Check.due("judge() of nothing felt", Check.of(THREE).judge(), -2);
    }

    /** Unsure: ab by 1, ac by 1, bc by 2, ad by 4; by chill 1. Felt abc 10: of 7 the three may add 2, 2, 3. */
    private static void severalFits() {
        Check.part("promises 38 to 43, several");
        String text = "plunge warm 10 chill 1 ice 0 visits 0;bather a plain bears 0;bather b plain bears 0;bather c plain bears 0;bather d plain bears 0;"
            + "unsure a b by 1;unsure c a by 1;unsure b c by 2;unsure a d by 4";
        ColdPlunge x = Check.of(text + ";felt 12,a,b,c");
        // 12 is 7 and 5: ab and bc, or ac and bc; ad is free
        int[] fits = {5, 6, 13, 14};
        Check.due("fits()", x.fits(), 4);
        for (int i = 0; i < 4; i++) {
            Check.due("fitAt(" + i + ")", x.fitAt(i), fits[i]);
        }
        Check.refused(x, "fitAt(4)", x.fitAt(4), -1, 1);
        Check.due("could()", x.could(), 15);
        Check.due("surely()", x.surely(), 4);
        Check.due("ask(): ab halves them", x.ask(), 0);
        Check.due("askLeaves()", x.askLeaves(), 2);
        ColdPlunge y = Check.of(text + ";felt 14,a,b,c");
        // all three: ad alone is open
        Check.due("fits()", y.fits(), 2);
        Check.due("fitAt(1)", y.fitAt(1), 15);
        Check.due("surely()", y.surely(), 7);
        Check.due("ask(): ad", y.ask(), 3);
        Check.due("askLeaves()", y.askLeaves(), 1);
        ColdPlunge z = Check.of(text);
        Check.due("fits() of nothing felt", z.fits(), 16);
        Check.due("fitAt(15)", z.fitAt(15), 15);
        Check.due("surely()", z.surely(), 0);
        Check.due("could()", z.could(), 15);
        Check.due("askLeaves()", z.askLeaves(), 8);
        Check.part("promises 38, 44, 45, as told at first");
        ColdPlunge w = Check.of("plunge warm 10 chill 1 ice 0 visits 0;bather a plain bears 0;bather b plain bears 0;bather c plain bears 0;"
            + "knows a b by 1;knows b c by 1;unsure a c by 1;felt 9,c,a");
        Check.due("introduce(0, 2), unsure ones", w.introduce(0, 2), true);
        Check.due("warmth(5) now", w.warmth(5), 11);
        Check.due("fits()", w.fits(), 1);
        Check.due("fitAt(0)", w.fitAt(0), 0);
        Check.due("chills()", w.chills(), 2);
        Check.due("judge()", w.judge(), -2);
        Check.due("size(7)", w.size(7), 1);
    }

    private static void rests() {
        Check.part("promises 46, 47");
        ColdPlunge x = Check.of(FOUR);
        Check.due("rests()", x.rests(), 1);
        Check.due("restAt(0)", x.restAt(0), 7);
        Check.refused(x, "restAt(1)", x.restAt(1), -1, 1);
        Check.refused(x, "restAt(-1)", x.restAt(-1), -1, 1);
        // two may be together, three not
        ColdPlunge y = Check.of("plunge warm 9 chill 4 ice 0 visits 0;bather a plain bears 5;bather b plain bears 5;bather c plain bears 5");
        int[] pairs = {3, 5, 6};
        Check.due("rests()", y.rests(), 3);
        for (int i = 0; i < 3; i++) {
            Check.due("restAt(" + i + ")", y.restAt(i), pairs[i]);
        }
        // nobody bears it alone: nobody is a rest, and so are both
        ColdPlunge z = Check.of("plunge warm 1 chill 0 ice 0 visits 0;bather x plain bears 2;bather y plain bears 2;knows x y by 1");
        Check.due("rests()", z.rests(), 2);
        Check.due("restAt(0)", z.restAt(0), 0);
        Check.due("restAt(1)", z.restAt(1), 3);
    }

    private static void swimmers() {
        Check.part("promises 48 to 50");
        ColdPlunge x = Check.of(THREE);
        for (int longing = 0; longing <= 9; longing++) {
            for (int of = 0; of < 2; of++) {
                Check.due("both near", x.swim(longing, true, true, of == 1), longing);
                Check.due("both apart", x.swim(longing, false, false, of == 1), 2);
                Check.due("one near", x.swim(longing, true, false, of == 1), of == 0 ? -2 : 1);
                Check.due("other near", x.swim(longing, false, true, of == 1), of == 0 ? 1 : -2);
            }
            Check.due("evens(" + longing + ")", x.evens(longing), longing == 0 ? 1 : 2);
            Check.due("even(" + longing + ")", x.even(longing), 0);
        }
        for (int longing : new int[] {-1, 10, Integer.MAX_VALUE, Integer.MIN_VALUE}) {
            Check.refused(x, "swim(" + longing + ")", x.swim(longing, true, true, true), -100, 2);
            Check.refused(x, "evens(" + longing + ")", x.evens(longing), -1, 2);
            Check.refused(x, "even(" + longing + ")", x.even(longing), -1, 2);
        }
    }

    private static void ratio(ColdPlunge x, int b, long upper, long lower) {
        Check.due("odds(" + b + ")", x.odds(b, false), upper);
        Check.due("odds(" + b + ") lower", x.odds(b, true), lower);
    }

    private static void visitors() {
        Check.part("promises 51 to 53");
        ColdPlunge x = Check.of(FOUR);
        ratio(x, 0, 5, 8);
        // bea: alone, ab, bc, abc, abd 9, bcd 10
        ratio(x, 1, 3, 4);
        // cal: alone, bc, abc, bcd
        ratio(x, 2, 1, 2);
        ratio(x, 3, 0, 1);
        Check.due("mean()", x.mean(false), 9);
        Check.due("mean() lower", x.mean(true), 1);
        Check.due("icy()", x.icy(false), 1);
        Check.due("icy() lower", x.icy(true), 16);
        x.come(3);
        Check.due("who is in means nothing", x.mean(false), 9);
        ratio(x, 0, 5, 8);
        for (int b : new int[] {-1, 4, 32}) {
            Check.refused(x, "odds(" + b + ")", x.odds(b, false), -1, 1);
            Check.refused(x, "odds(" + b + ")", x.odds(b, true), -1, 1);
        }
        // visits 0: alone 5; the first and the last bear 6
        ColdPlunge never = Check.of(ROW.replace("visits 25", "visits 0"));
        ratio(never, 0, 0, 1);
        ratio(never, 1, 1, 1);
        Check.due("mean()", never.mean(false), 5);
        Check.due("icy(): nobody comes, and that is icy", Check.of(ROW.replace("visits 25", "visits 0").replace("ice 0", "ice 6")).icy(false), 1);
        Check.due("icy()", never.icy(false), 0);
        Check.due("icy() lower", never.icy(true), 1);
        // visits 100: five know each other, ten are strangers
        ColdPlunge always = Check.of(ROW.replace("visits 25", "visits 100").replace("warm 5", "warm 12").replace("ice 0", "ice 8"));
        Check.due("mean()", always.mean(false), 7);
        Check.due("mean() lower", always.mean(true), 1);
        Check.due("icy()", always.icy(false), 1);
        Check.due("icy() lower", always.icy(true), 1);
        ratio(always, 0, 1, 1);
        // 1 with 37 in a hundred, else 10 of nobody or 10 of one
        ColdPlunge odd = Check.of("plunge warm 10 chill 9 ice 2 visits 37;bather a plain bears 2;bather b plain bears 2");
        Check.due("mean(): 10 less 9 times 37 times 37 by 10000", odd.mean(false), 87679);
        Check.due("mean() lower", odd.mean(true), 10000);
        Check.due("icy()", odd.icy(false), 1369);
        Check.due("icy() lower", odd.icy(true), 10000);
        ratio(odd, 1, 63, 100);
        // six who come with 37 in a hundred, and it is icy just with all: 37 to the 6th by 10 to the 12th
        ColdPlunge six = Check.of("plunge warm 15 chill 1 ice 1 visits 37;bather a plain bears 1;bather b plain bears 1;bather c plain bears 1;"
            + "bather d plain bears 1;bather e plain bears 1;bather f plain bears 1");
        Check.due("icy()", six.icy(false), 2565726409L);
        Check.due("icy() lower", six.icy(true), 1000000000000L);
        // 15 pairs, each in with 37 times 37 by 10000: 15 less 15 times that
        Check.due("mean()", six.mean(false), 25893);
        Check.due("mean() lower", six.mean(true), 2000);
    }

    private static void mornings() {
        Check.part("promises 54, 55");
        ColdPlunge x = Check.of(FOUR);
        int[][] stays = {{1, 2, 0, 0}, {2, 3, 2, 0}, {3, 4, 2, 0}, {0, 0, 0, 0}};
        int[] seeds = {0, 1, 3, 65536};
        int[] waits = {4, 4, 2, 6};
        for (int i = 0; i < 4; i++) {
            for (int b = 0; b < 4; b++) {
                Check.due("mornings(" + b + ", " + seeds[i] + ", 6)", x.mornings(b, seeds[i], 6), stays[i][b]);
            }
            Check.due("waits(" + seeds[i] + ", 6)", x.waits(seeds[i], 6), waits[i]);
        }
        Check.due("mornings(0, 7, 60)", x.mornings(0, 7, 60), 23);
        Check.due("waits(7, 60)", x.waits(7, 60), 31);
        x.come(0);
        x.come(1);
        Check.due("who is in means nothing", x.mornings(0, 0, 6), 1);
        Check.due("mornings(0, 0, 0)", x.mornings(0, 0, 0), 0);
        Check.due("waits(0, 0)", x.waits(0, 0), 0);
        int[][] wrong = {{-1, 6}, {65537, 6}, {0, -1}, {0, 61}, {Integer.MIN_VALUE, 0}, {0, Integer.MAX_VALUE}};
        for (int[] pair : wrong) {
            Check.refused(x, "mornings", x.mornings(0, pair[0], pair[1]), -1, 2);
            Check.refused(x, "waits", x.waits(pair[0], pair[1]), -1, 2);
            Check.refused(x, "mornings of nobody", x.mornings(4, pair[0], pair[1]), -1, 1);
        }
        Check.refused(x, "mornings(-1, 0, 0)", x.mornings(-1, 0, 0), -1, 1);
        // below visits: the first draw of 0 is 74
        ColdPlunge at = Check.of("plunge warm 9 chill 0 ice 0 visits 74;bather a plain bears 9");
        Check.due("74 isn't below 74", at.mornings(0, 0, 1), 0);
        ColdPlunge above = Check.of("plunge warm 9 chill 0 ice 0 visits 75;bather a plain bears 9");
        Check.due("74 is below 75", above.mornings(0, 0, 1), 1);
        ColdPlunge two = Check.of("plunge warm 7 chill 0 ice 0 visits 100;bather a plain bears 7;bather b plain bears 10;bather c plain bears 13;"
            + "knows a b by 2;knows b c by 3");
        Check.due("two minutes a morning", two.waits(5, 10), 20);
        Check.due("who stays", two.mornings(0, 5, 10), 10);
    }

    private static void acts() {
        ColdPlunge x = Check.of(FOUR);
        Check.part("promises 56, 57, 59");
        Check.due("come(0)", x.come(0), 10);
        Check.refused(x, "come(0) again", x.come(0), -1, 5);
        Check.due("come(1)", x.come(1), 13);
        Check.refused(x, "get(2)", x.get(2), -1, 5);
        Check.refused(x, "minute(): all bear it", x.minute(), -1, 5);
        Check.due("size(10)", x.size(10), 0);
        Check.due("come(3)", x.come(3), 9);
        Check.due("minute(): dan", x.minute(), 8);
        Check.due("trouble()", x.trouble(), 0);
        Check.due("company()", x.company(), 3);
        Check.due("size(10)", x.size(10), 1);
        Check.due("get(0)", x.get(0), 10);
        Check.due("company()", x.company(), 2);
        Check.due("size(11)", x.size(11), 5);
        for (int b : new int[] {-1, 4, 32, Integer.MIN_VALUE}) {
            Check.refused(x, "come(" + b + ")", x.come(b), -1, 1);
            Check.refused(x, "get(" + b + ")", x.get(b), -1, 1);
        }
        x.come(0);
        x.come(2);
        x.come(3);
        Check.due("minute(): all at once", x.minute(), 15);
        Check.due("company()", x.company(), 0);
        Check.refused(x, "minute() of nobody", x.minute(), -1, 5);
    }

    private static void undoing() {
        Check.part("promise 60");
        ColdPlunge x = Check.of(ROW);
        Check.refused(x, "undo() of nothing", x.undo(), 6);
        x.come(0);
        x.introduce(0, 2);
        x.minute();
        Check.due("company()", x.company(), 0);
        Check.due("undo() of the minute", x.undo(), true);
        Check.due("trouble()", x.trouble(), 0);
        Check.due("company()", x.company(), 1);
        Check.due("size(10)", x.size(10), 0);
        Check.due("size(9)", x.size(9), 1);
        Check.due("undo() of the introduction", x.undo(), true);
        Check.due("ties(0, 2)", x.ties(0, 2), 0);
        Check.due("warmth(5)", x.warmth(5), 4);
        Check.due("undo() of coming", x.undo(), true);
        Check.due("company()", x.company(), 0);
        Check.refused(x, "undo() of nothing", x.undo(), 6);
        x.come(0);
        x.minute();
        x.come(0);
        Check.due("size(10)", x.size(10), 1);
        x.undo();
        Check.due("size(10): the minute stays", x.size(10), 1);
        x.undo();
        x.undo();
        Check.due("size(10)", x.size(10), 0);
        for (int i = 0; i < 10; i++) {
            x.come(1);
            x.get(1);
        }
        Check.due("16 are kept", x.size(11), 16);
        x.come(2);
        for (int i = 0; i < 16; i++) {
            Check.due("undo() of 16", x.undo(), true);
        }
        Check.refused(x, "undo() of the 17th", x.undo(), 6);
        Check.due("company() behind five acts", x.company(), 2);
        x.come(3);
        Check.due("an act behind them", x.undo(), true);
        Check.due("company()", x.company(), 2);
    }

    private static void images() {
        Check.part("promises 61, 62");
        ColdPlunge x = Check.of(ROW);
        Check.refused(x, "back(0) without one", x.back(0), 1);
        Check.due("image()", x.image(), 0);
        x.come(0);
        x.introduce(0, 2);
        Check.due("image()", x.image(), 1);
        x.minute();
        x.come(4);
        Check.due("image()", x.image(), 2);
        Check.refused(x, "a fourth image()", x.image(), -1, 3);
        Check.due("an image is no act", x.size(11), 4);
        Check.due("back(1)", x.back(1), true);
        Check.due("trouble()", x.trouble(), 0);
        Check.due("company()", x.company(), 1);
        Check.due("size(9)", x.size(9), 1);
        Check.due("size(10)", x.size(10), 0);
        Check.due("size(11)", x.size(11), 0);
        Check.due("all images stay", x.size(12), 3);
        Check.refused(x, "nothing can be undone", x.undo(), 6);
        Check.due("back(0)", x.back(0), true);
        Check.due("ties(0, 2)", x.ties(0, 2), 0);
        Check.due("company()", x.company(), 0);
        Check.due("back(2)", x.back(2), true);
        Check.due("company()", x.company(), 16);
        Check.due("size(10)", x.size(10), 1);
        Check.due("ties(0, 2)", x.ties(0, 2), 1);
        for (int image : new int[] {-1, 3, Integer.MIN_VALUE}) {
            Check.refused(x, "back(" + image + ")", x.back(image), 1);
        }
        x.come(1);
        Check.refused(x, "back(3)", x.back(3), 1);
        Check.due("a refused back() leaves what can be undone", x.size(11), 1);
    }

    private static void told() {
        Check.part("promise 63");
        ColdPlunge x = Check.of(FOUR);
        Check.due("led(0) of nobody", Check.led(x, 0), -1000);
        x.come(0);
        x.come(2);
        x.come(3);
        int[] led = {0, 2, 3};
        for (int i = 0; i < 3; i++) {
            Check.due("led(" + i + ")", Check.led(x, i), led[i]);
        }
        for (int i : new int[] {-1, 3, Integer.MIN_VALUE, Integer.MAX_VALUE}) {
            Check.due("led(" + i + ")", Check.led(x, i), -1000);
        }
        x.get(2);
        Check.due("led(0): dan alone", Check.led(x, 0), 3);
        Check.due("led(1)", Check.led(x, 1), -1000);
        x.come(3);
        Check.led(x, 9);
        Check.due("trouble() stays behind led()", x.trouble(), 5);
        Check.part("promise 64");
        int[] sizes = {10, 2, 5, 50, 4, 2, 1, 1, 2, 0, 0, 4, 0, 0};
        for (int what = 0; what < 14; what++) {
            Check.due("size(" + what + ")", x.size(what), sizes[what]);
        }
        x.image();
        x.minute();
        x.feed(0, 0, 0, 0, 0);
        Check.due("size(10)", x.size(10), 1);
        Check.due("size(12)", x.size(12), 1);
        Check.due("size(13)", x.size(13), 20);
        for (int what : new int[] {-1, 14, Integer.MIN_VALUE, Integer.MAX_VALUE}) {
            Check.due("size(" + what + ")", x.size(what), -1);
        }
    }

    private static void troubles() {
        Check.part("promise 65");
        ColdPlunge x = Check.of(FOUR);
        x.get(0);
        Check.due("trouble()", x.trouble(), 5);
        Check.due("trouble() again", x.trouble(), 5);
        x.size(99);
        x.fault();
        x.where();
        x.feed(0, 0, 0, 0, 0);
        Check.due("trouble() behind calls that can't be refused", x.trouble(), 5);
        x.closest();
        Check.due("trouble() of a call that wasn't", x.trouble(), 0);
    }

    private static void withoutPlunge() {
        Check.part("promise 1");
        ColdPlunge x = new ColdPlunge();
        Check.due("trouble()", x.trouble(), 0);
        Check.due("fault()", x.fault(), 0);
        Check.due("where()", x.where(), -1);
        for (int what = 0; what < 14; what++) {
            Check.due("size(" + what + ")", x.size(what), 0);
        }
        Check.due("NONE", ColdPlunge.NONE, -1);
        Check.refused(x, "undo()", x.undo(), 6);
        Check.refused(x, "back(0)", x.back(0), 1);
        Check.refused(x, "introduce(0, 1)", x.introduce(0, 1), 1);
        long[] answers = new long[60];
        for (int i = 0; i < 60; i++) {
            x.undo();
            answers[i] = without(x, i);
            Check.refused(x, "call " + i, answers[i], i == 1 || i == 45 ? -100 : -1, 1);
        }
        Check.due("led(0)", Check.led(x, 0), -1000);
        Check.due("size(14)", x.size(14), -1);
        // a faulty text makes none
        Check.tell(x, THREE + ";x");
        Check.refused(x, "company()", x.company(), -1, 1);
        Check.due("size(4)", x.size(4), 0);
    }

    private static long without(ColdPlunge x, int i) {
        return switch (i) {
            case 0 -> x.bather(0, 0);
            case 1 -> x.ties(0, 1);
            case 2 -> x.company();
            case 3 -> x.warmth(0);
            case 4 -> x.bear(0);
            case 5 -> x.iced();
            case 6 -> x.stays(0);
            case 7 -> x.minutes(0);
            case 8 -> x.spare(0);
            case 9 -> x.closest();
            case 10 -> x.loneliest();
            case 11 -> x.mates(0);
            case 12 -> x.most();
            case 13 -> x.mostWith(0);
            case 14 -> x.warmest(0);
            case 15 -> x.coldest(0);
            case 16 -> x.bearsWith(0);
            case 17 -> x.spoils(0);
            case 18 -> x.mends(0);
            case 19 -> x.comes(0);
            case 20 -> x.comesAt(0, 0);
            case 21 -> x.snugs();
            case 22 -> x.toCall();
            case 23 -> x.toSend();
            case 24 -> x.baths();
            case 25 -> x.bathOf(0);
            case 26 -> x.canMeet(0, 1);
            case 27 -> x.meetings();
            case 28 -> x.fewest(0);
            case 29 -> x.firstMeeting(0);
            case 30 -> x.between(0, 1);
            case 31 -> x.circles();
            case 32 -> x.fits();
            case 33 -> x.fitAt(0);
            case 34 -> x.could();
            case 35 -> x.surely();
            case 36 -> x.ask();
            case 37 -> x.askLeaves();
            case 38 -> x.chills();
            case 39 -> x.judge();
            case 40 -> x.rests();
            case 41 -> x.restAt(0);
            case 42 -> x.evens(0);
            case 43 -> x.even(0);
            case 44 -> x.odds(0, false);
            case 45 -> x.swim(0, true, true, true);
            case 46 -> x.mean(false);
            case 47 -> x.icy(true);
            case 48 -> x.mornings(0, 0, 0);
            case 49 -> x.waits(0, 0);
            case 50 -> x.come(0);
            case 51 -> x.get(0);
            case 52 -> x.minute();
            case 53 -> x.image();
            case 54 -> x.evens(10);
            case 55 -> x.warmth(-1);
            case 56 -> x.warmest(7);
            case 57 -> x.waits(-1, -1);
            case 58 -> x.comesAt(-1, -1);
            default -> x.mean(true);
        };
    }
}
