/** Terms I and promises 1 to 5: the tape, the text, its faults. */
final class EdgesOfText {
    private static final String HEAD = Texts.head(0, 0, 0, 0);
    private static final String THREE = Texts.of(HEAD, "p0 p0 p0");
    private static final String SIX = Texts.of(HEAD, "p0 p0 p0 p0 p0 p0");

    private EdgesOfText() {
    }

    static void look() {
        tokens();
        head();
        bathers();
        ties();
        felt();
        names();
        order();
        form();
        told();
        again();
        outOfBounds();
        many();
        lacks();
        newObject();
        feed();
        feedFull();
        plunge();
        plungeAnew();
        plungeRefused();
        fault();
        where();
    }

    private static void good(String text, int bathers) {
        ColdPlunge x = new ColdPlunge();
        Check.due("plunge of " + text, Check.tell(x, text), bathers);
        Check.due("trouble() of " + text, x.trouble(), 0);
        Check.due("fault() of " + text, x.fault(), 0);
        Check.due("where() of " + text, x.where(), -1);
    }

    private static void bad(String text, int fault, int where) {
        ColdPlunge x = new ColdPlunge();
        Check.due("plunge of " + text, Check.tell(x, text), -1);
        Check.due("trouble() of " + text, x.trouble(), 4);
        Check.due("fault() of " + text, x.fault(), fault);
        Check.due("where() of " + text, x.where(), where);
    }

    /** The fault is at the first byte of the rest. */
    private static void badAt(String before, String rest, int fault) {
        bad(before + rest, fault, before.length());
    }

    private static void tokens() {
        Sentences.ofTerms("I", "THE TEXT of a PLUNGE (THE TAPE has 900 bytes");
        ColdPlunge x = new ColdPlunge();
        Check.due("a text of 900 bytes", Check.tell(x, " ".repeat(900 - THREE.length()) + THREE), 3);
        Check.feedText(x, " ".repeat(900));
        Check.due("size(13)", x.size(13), 900);
        Check.due("a byte more", x.feed(0, 0, 0, 0, 0), -1);
        Check.due("plunge(901)", x.plunge(901), -1);
        Check.due("trouble() of 901", x.trouble(), 2);
        Check.due("plunge(900)", x.plunge(900), -1);
        Check.due("trouble() of 900 blanks", x.trouble(), 4);
        Check.due("where() of 900 blanks", x.where(), 900);

        Sentences.ofTerms("I", "blanks, 32, part TOKENS and mean nothing else");
        good("   plunge    warm 0 chill   0 ice 0 visits 0   ;   bather  a   plain bears  0   ", 1);
        good("plunge warm0chill0ice0visits0;bather a plain bears0;felt0,a", 1);
        badAt("", "pl unge warm 0", 1);
        bad("plungewarm 0", 1, 0);
        badAt("plunge warm 0 chill 0 ice 0 visits 1 ", "0;bather a plain bears 0", 1);
        for (int sign : new int[] {0, 9, 10, 13, 31, 33, 127, 128, 160, 255}) {
            badAt("plunge", (char) sign + "warm 0", 1);
        }

        Sentences.ofTerms("I", "TOKENS: WORDS of 1 to 8 small letters that stand together");
        good(HEAD + ";bather z plain bears 0", 1);
        good(HEAD + ";bather abcdefgh plain bears 0;bather abcdefgi plain bears 0", 2);
        badAt(HEAD + ";bather ", "abcdefghi plain bears 0", 1);
        badAt(HEAD + ";bather ", "abcdefghabcdefgh plain bears 0", 1);
        good(HEAD + ";bather azaz plain bears 0", 1);
        for (int sign : new int[] {'A', 'Z', '`', '{', 'a' + 128}) {
            badAt(HEAD + ";bather ", (char) sign + " plain bears 0", 1);
            badAt(HEAD + ";bather x", (char) sign + " plain bears 0", 1);
        }

        Sentences.ofTerms("I", "WHOLES of 1 to 3 digits that do");
        good(HEAD + ";bather a plain bears 9", 1);
        good(HEAD + ";bather a plain bears 099", 1);
        badAt(HEAD + ";bather a plain bears ", "0099", 1);
        badAt(HEAD + ";bather a plain bears ", "0000000000000", 1);
        for (int sign : new int[] {'/', ':', '-', '+', '0' + 128}) {
            badAt(HEAD + ";bather a plain bears ", (char) sign + "1", 1);
            badAt(HEAD + ";bather a plain bears 1", (char) sign + "", 1);
        }

        Sentences.ofTerms("I", "single ones of ;,):");
        good(THREE + ";felt 0,a,b", 3);
        badAt(THREE + ";", ";felt 0", 1);
        badAt(THREE + ";felt 0,", ",a", 1);
        for (int sign : new int[] {'.', ':', '<', '+', '-', '!', '"', '\''}) {
            badAt(THREE, (char) sign + "felt 0", 1);
        }

        Sentences.ofTerms("I", "LINE {; LINE}. LINE, one of:");
        badAt("", "", 1);
        bad(HEAD, 6, HEAD.length());
        good(HEAD + ";bather a plain bears 0", 1);
        badAt(HEAD + ";bather a plain bears 0;", "", 1);
        badAt(HEAD + ";bather a plain bears 0 ", "felt 0", 1);
        badAt(HEAD + ";bather a plain bears 0", ",felt 0", 1);
        badAt("", ";" + HEAD, 1);
        badAt("", "warm 0", 1);
        badAt(THREE + ";", "swims a", 1);
    }

    private static void head() {
        Sentences.ofTerms("I", "plunge warm WHOLE chill WHOLE ice WHOLE visits WHOLE");
        good("plunge warm 1 chill 2 ice 3 visits 4;bather a plain bears 0", 1);
        String[] parts = {"plunge ", "warm ", "1 ", "chill ", "2 ", "ice ", "3 ", "visits ", "4 "};
        StringBuilder before = new StringBuilder();
        for (int i = 0; i < parts.length; i++) {
            if (i > 0) {
                bad(before.toString(), 1, before.length());
                badAt(before.toString(), i % 2 == 1 ? "7" : "bears", 1);
                badAt(before.toString(), ";", 1);
            }
            before.append(parts[i]);
        }
        bad(before.toString(), 6, before.length());
        badAt(before.toString(), "5", 1);
        ColdPlunge x = Check.of("plunge warm 1 chill 2 ice 3 visits 4;bather a plain bears 0");
        for (int what = 0; what < 4; what++) {
            Check.due("size(" + what + ")", x.size(what), what + 1);
        }

        Sentences.ofTerms("I", "(0 .. 60; 0 .. 9; 0 .. 30; 0 .. 100 in a hundred)");
        int[] greatest = {60, 9, 30, 100};
        String[] words = {"warm ", " chill ", " ice ", " visits "};
        String soFar = "plunge ";
        for (int i = 0; i < 4; i++) {
            badAt(soFar + words[i], "" + (greatest[i] + 1), 4);
            badAt(soFar + words[i], "999", 4);
            soFar += words[i] + greatest[i];
        }
        x = Check.of(soFar + ";bather a plain bears 0");
        ColdPlunge least = Check.of(THREE);
        for (int i = 0; i < 4; i++) {
            Check.due("size(" + i + ")", x.size(i), greatest[i]);
            Check.due("size(" + i + ")", least.size(i), 0);
        }

        Sentences.ofTerms("I", "ahead of all others");
        for (String line : new String[] {"bather a plain bears 0", "felt 0", "knows", "foes a b by 1", "unsure a b by 1"}) {
            badAt("", line + ";" + HEAD, 6);
        }
        good(HEAD + ";felt 0;bather a plain bears 0", 1);
    }

    private static void bathers() {
        Sentences.ofTerms("I", "bather NAME KIND bears WHOLE");
        good(HEAD + ";bather a plain bears 0", 1);
        String[] parts = {"bather ", "a ", "plain ", "bears ", "0"};
        String before = HEAD + ";";
        for (int i = 0; i < parts.length; i++) {
            bad(before, 1, before.length());
            badAt(before, i == 0 || i == 4 ? "bears" : "7", 1);
            badAt(before, ";", 1);
            before += parts[i];
        }
        badAt(before + " ", "0", 1);

        Sentences.ofTerms("I", "(KIND: plain, tender, or hardy; 0 .. 99; up to 6)");
        ColdPlunge x = Check.of(Texts.of(HEAD, "p0 t99 h7 p99 t0 h0"));
        int[] kinds = {0, 1, 2, 0, 1, 2};
        int[] bears = {0, 99, 7, 99, 0, 0};
        for (int b = 0; b < 6; b++) {
            Check.due("KIND of " + b, x.bather(b, 0), kinds[b]);
            Check.due("what bears " + b, x.bather(b, 1), bears[b]);
        }
        for (String kind : new String[] {"plai", "plains", "tende", "hard", "bears", "felt", "a", "wet"}) {
            badAt(HEAD + ";bather a ", kind + " bears 0", 1);
        }
        badAt(HEAD + ";bather a plain bears ", "100", 4);
        badAt(HEAD + ";bather a plain bears ", "999", 4);
        good(SIX, 6);
        badAt(SIX + ";", "bather g plain bears 0", 5);
    }

    private static void ties() {
        Sentences.ofTerms("I", "knows BATHER BATHER by WHOLE, or foes BATHER BATHER by WHOLE, or unsure BATHER BATHER by WHOLE");
        for (String sort : new String[] {"knows ", "foes ", "unsure "}) {
            good(THREE + ";" + sort + "a b by 1", 3);
            String before = THREE + ";" + sort;
            String[] parts = {"c ", "a ", "by ", "1"};
            for (int i = 0; i < parts.length; i++) {
                bad(before, 1, before.length());
                badAt(before, i < 2 ? "7" : i == 2 ? "bye" : "by", 1);
                badAt(before, ",", 1);
                before += parts[i];
            }
            badAt(before, ",b", 1);
        }
        ColdPlunge x = Check.of(THREE + ";knows a b by 4;foes c a by 5;unsure b c by 6");
        Check.due("ties(0, 1)", x.ties(0, 1), 4);
        Check.due("ties(0, 2)", x.ties(0, 2), -5);
        Check.due("ties(1, 2)", x.ties(1, 2), 0);

        Sentences.ofTerms("I", "(unlike; each two once of all three; 1 .. 9; unsure: up to 4)");
        String[] sorts = {"knows ", "foes ", "unsure "};
        for (String sort : sorts) {
            badAt(THREE + ";" + sort + "b ", "b by 1", 3);
            for (String second : sorts) {
                badAt(THREE + ";" + sort + "a c by 1;" + second + "a ", "c by 1", 3);
                badAt(THREE + ";" + sort + "a c by 1;" + second + "c ", "a by 1", 3);
                good(THREE + ";" + sort + "a c by 1;" + second + "c b by 9;" + sort + "a b by 5", 3);
            }
            badAt(THREE + ";" + sort + "a b by ", "0", 4);
            badAt(THREE + ";" + sort + "a b by ", "10", 4);
            good(THREE + ";" + sort + "a b by 1;" + sort + "a c by 009", 3);
        }
        String four = Texts.of(HEAD, "p0 p0 p0 p0 p0 p0", "ab?1 ac?1 ad?1 ae?1");
        good(four, 6);
        badAt(four + ";", "unsure a f by 1", 5);
        // all fifteen pairs of six: of knows and foes there is no limit but that each two come once
        good(Texts.of(HEAD, "p0 p0 p0 p0 p0 p0", "ab1 ac1 ad1 ae1 af1 bc1 bd1 be1 bf1 cd1 ce1 cf1 de1 df1 ef1"), 6);
        good(Texts.of(HEAD, "p0 p0 p0 p0 p0 p0", "ab-1 ac-1 ad-1 ae-1 af-1 bc-1 bd-1 be-1 bf-1 cd-1 ce-1 cf-1 de-1 df-1 ef-1"), 6);
    }

    private static void felt() {
        Sentences.ofTerms("I", "felt WHOLE {, BATHER}");
        good(THREE + ";felt 0", 3);
        good(THREE + ";felt 0,a", 3);
        good(THREE + ";felt 0,c,a,b", 3);
        badAt(THREE + ";felt ", "", 1);
        badAt(THREE + ";felt ", "a", 1);
        badAt(THREE + ";felt ", ",a", 1);
        badAt(THREE + ";felt 0 ", "a", 1);
        badAt(THREE + ";felt 0,", "", 1);
        badAt(THREE + ";felt 0,", ";felt 0", 1);
        badAt(THREE + ";felt 0,", "0", 1);
        badAt(THREE + ";felt 0,a ", "b", 1);

        Sentences.ofTerms("I", "(0 .. 200; unlike ones; up to 4)");
        good(THREE + ";felt 0;felt 200", 3);
        badAt(THREE + ";felt ", "201", 4);
        badAt(THREE + ";felt ", "999,a", 4);
        badAt(THREE + ";felt 0,a,", "a", 3);
        badAt(THREE + ";felt 0,a,b,", "a", 3);
        good(THREE + ";felt 0,a,b;felt 0,a,b", 3);
        good(SIX + ";felt 0,a,b,c,d,e,f", 6);
        good(THREE + ";felt 0;felt 0;felt 0;felt 0", 3);
        badAt(THREE + ";felt 0;felt 0;felt 0;felt 0;", "felt 0", 5);
    }

    private static void names() {
        Sentences.ofTerms("I", "NAMES are WORDS but plunge, bather, knows, foes, unsure, felt");
        String[] kept = {"plunge", "bather", "knows", "foes", "unsure", "felt"};
        for (String word : kept) {
            badAt(HEAD + ";bather ", word + " plain bears 0", 1);
            badAt(THREE + ";knows ", word + " a by 1", 1);
            badAt(THREE + ";foes a ", word + " by 1", 1);
            badAt(THREE + ";felt 0,", word, 1);
            good(HEAD + ";bather " + word + "s plain bears 0", 1);
            good(HEAD + ";bather " + word.substring(1) + " plain bears 0", 1);
        }
        good(HEAD + ";bather warm plain bears 0;bather chill plain bears 0;bather ice plain bears 0;bather visits plain bears 0", 4);
        good(HEAD + ";bather bears plain bears 0;bather by plain bears 0;bather plain plain bears 0;bather tender tender bears 0;"
            + "bather hardy hardy bears 0;knows by bears by 1;felt 0,plain,by", 5);

        Sentences.ofTerms("I", "; each told once, ahead of its use.");
        good(HEAD + ";bather a plain bears 0;bather aa plain bears 0;bather aaa plain bears 0", 3);
        for (char letter = 'a'; letter <= 'z'; letter++) {
            String one = String.valueOf(letter);
            String two = ";bather " + one + " plain bears 0;bather " + one.repeat(2) + " plain bears 0";
            good(HEAD + two + ";bather a" + one.repeat(7) + " plain bears 0;knows " + one.repeat(2) + " " + one + " by 1", 3);
            badAt(HEAD + two + ";bather ", one + " plain bears 0", 3);
        }
        badAt(HEAD + ";bather a plain bears 0;bather ", "a plain bears 0", 3);
        badAt(HEAD + ";bather a plain bears 0;knows a ", "b by 1;bather b plain bears 0", 2);
        good(HEAD + ";bather a plain bears 0;bather b plain bears 0;knows a b by 1", 2);
        badAt(HEAD + ";felt 0,", "a;bather a plain bears 0", 2);
        badAt(HEAD + ";bather a plain bears 0;knows ", "aa a by 1", 2);
        badAt(HEAD + ";bather aa plain bears 0;felt 0,", "a", 2);
    }

    private static void order() {
        Sentences.ofTerms("I", "FAULTS, the first that is met from the left");
        badAt("plunge warm ", "61 chill 10", 4);
        badAt("plunge warm 60 chill ", "10 ice x", 4);
        badAt(THREE + ";knows a ", "a by 0", 3);
        badAt(THREE + ";knows ", "w a by 0", 2);
        badAt(THREE + ";bather ", "b wet bears 100", 3);
        badAt(SIX + ";", "bather a wet bears 100", 5);
        badAt("", "bather felt", 6);
        badAt(THREE + ";felt ", "201,w", 4);

        Sentences.ofTerms("I", "of one place the least number");
        // no bather and a LINE cut short are both at the end
        badAt(HEAD + ";", "", 1);
        badAt(HEAD + ";felt", "", 1);
        badAt(HEAD + ";felt 0", "", 6);
        badAt("", "", 1);
        // a second plunge is one more than there is room for, too
        badAt(THREE + ";", "plunge", 3);
        // four digits are out of bounds, too
        badAt("plunge warm ", "9999", 1);
        // a WORD that is no NAME isn't told, either
        badAt(THREE + ";knows ", "plunge a by 1", 1);
    }

    private static void form() {
        Sentences.ofTerms("I", "1 FORM: the first byte that begins no TOKEN, or TOKEN with which no PLUNGE goes on");
        badAt("", "!", 1);
        badAt("  ", "!", 1);
        badAt(THREE, "!", 1);
        badAt(THREE + "  ", "(", 1);
        badAt(THREE + ";felt 0,a", "!", 1);
        badAt(THREE + ";felt 0,a;", "!", 1);
        badAt("", "plung", 1);
        badAt("", "plunges", 1);
        badAt("", "0", 1);
        badAt("plunge ", "warmth 0", 1);
        badAt(THREE + ";felt 0 ", "0", 1);

        Sentences.ofTerms("I", "(the end: its place).");
        for (int blanks = 0; blanks < 3; blanks++) {
            String end = " ".repeat(blanks);
            bad("" + end, 1, blanks);
            bad("plunge" + end, 1, 6 + blanks);
            bad(THREE + ";" + end, 1, THREE.length() + 1 + blanks);
            bad(THREE + ";felt 0," + end, 1, THREE.length() + 8 + blanks);
        }
        bad(HEAD + ";bather a plain bears", 1, HEAD.length() + 21);
    }

    private static void told() {
        Sentences.ofTerms("I", "2 a NAME that isn't told; at it.");
        badAt(THREE + ";knows ", "d a by 1", 2);
        badAt(THREE + ";knows a ", "d by 1", 2);
        badAt(THREE + ";foes ", "d d by 1", 2);
        badAt(THREE + ";foes b   ", "plain by 1", 2);
        badAt(THREE + ";unsure ", "ab c by 1", 2);
        badAt(THREE + ";unsure c ", "cc by 1", 2);
        badAt(THREE + ";felt 0,", "d", 2);
        badAt(THREE + ";felt 0,a,b, ", "bears", 2);
        // the seventh NAME of another text is none of this one
        ColdPlunge x = Check.of(SIX);
        Check.due("plunge", Check.tell(x, THREE + ";felt 0,d"), -1);
        Check.due("fault()", x.fault(), 2);
    }

    private static void again() {
        Sentences.ofTerms("I", "3 a NAME told again; at it;");
        for (String name : new String[] {"a", "b", "c"}) {
            badAt(THREE + ";bather ", name + " plain bears 0", 3);
        }
        good(THREE + ";bather d plain bears 0", 4);
        // what a faulty text told is forgotten
        ColdPlunge x = new ColdPlunge();
        Check.tell(x, HEAD + ";bather a plain bears 100");
        Check.due("plunge", Check.tell(x, HEAD + ";bather a plain bears 99"), 1);

        Sentences.ofTerms("I", "a second BATHER that is the first, or of whom with that one something is told already;");
        badAt(THREE + ";knows a ", "a by 1", 3);
        badAt(THREE + ";foes c ", "c", 3);
        badAt(THREE + ";unsure b ", "b by 77", 3);
        badAt(THREE + ";knows a b by 1;unsure a ", "b by 1", 3);
        badAt(THREE + ";unsure a b by 1;foes b ", "a by 1", 3);
        badAt(THREE + ";foes b c by 1;foes b ", "c by 1", 3);
        good(THREE + ";foes b c by 1;foes b a by 1;foes c a by 1", 3);
        good(Texts.of(HEAD, "p0 p0 p0 p0 p0 p0", "af1 be1 cd1 ef1"), 6);

        Sentences.ofTerms("I", "a BATHER told of that felt already; at it;");
        badAt(THREE + ";felt 0,a,b,c,", "b", 3);
        badAt(THREE + ";felt 0,a;felt 0,b,", "b", 3);
        good(THREE + ";felt 0,a;felt 0,a;felt 0,a,b", 3);
        badAt(SIX + ";felt 0,a,b,c,d,e,f,", "f", 3);

        Sentences.ofTerms("I", "a second plunge: at that WORD.");
        badAt(HEAD + ";", "plunge", 3);
        badAt(HEAD + ";   ", "plunge warm 0", 3);
        badAt(THREE + ";", "plunge warm 0 chill 0 ice 0 visits 0", 3);
    }

    private static void outOfBounds() {
        Sentences.ofTerms("I", "4 a WHOLE out of bounds; at it.");
        badAt("plunge warm   ", "61 chill 0 ice 0 visits 0", 4);
        badAt("plunge warm 0 chill ", "010", 4);
        badAt("plunge warm 0 chill 0 ice ", "31", 4);
        badAt("plunge warm 0 chill 0 ice 0 visits ", "101", 4);
        badAt(HEAD + ";bather a hardy bears ", "100", 4);
        badAt(THREE + ";knows a b by ", "0", 4);
        badAt(THREE + ";foes a b by ", "000", 4);
        badAt(THREE + ";unsure a b by ", "10", 4);
        badAt(THREE + ";felt ", "201", 4);
        good("plunge warm 060 chill 009 ice 030 visits 100;bather a plain bears 099;bather b plain bears 000;knows a b by 009;felt 200", 2);
    }

    private static void many() {
        Sentences.ofTerms("I", "5 MANY: a LINE more of its sort than there is room for, at its first WORD.");
        badAt(SIX + ";  ", "bather", 5);
        badAt(SIX + ";", "bather a", 5);
        badAt(SIX + ";", "bather 7", 5);
        String four = Texts.of(HEAD, "p0 p0 p0", "ab?1 ac?1 bc?1");
        good(four, 3);
        badAt(four + ";unsure a ", "b by 1", 3);
        String full = Texts.of(HEAD, "p0 p0 p0 p0", "ab?1 ac?1 bc?1 ad?1");
        good(full + ";knows b d by 1;foes c d by 1", 4);
        badAt(full + ";", "unsure b d by 1", 5);
        badAt(full + ";", "unsure", 5);
        String felt = THREE + ";felt 0;felt 1;felt 2";
        good(felt + ";felt 3,a", 3);
        badAt(felt + ";felt 3;", "felt", 5);
        badAt(felt + ";felt 3;", "felt 201", 5);
        // the room of one text isn't taken from another one
        ColdPlunge x = Check.of(SIX);
        Check.due("plunge", Check.tell(x, Texts.of(HEAD, "p0 p0 p0 p0 p0 p0", "ab?1 ac?1 ad?1 ae?1", "0 0 0 0")), 6);
        Check.due("plunge", Check.tell(x, Texts.of(HEAD, "p0 p0 p0 p0 p0 p0", "ab?1 ac?1 ad?1 ae?1", "0 0 0 0")), 6);
    }

    private static void lacks() {
        Sentences.ofTerms("I", "6 LACKS: any LINE ahead of the plunge; at its WORD;");
        for (String word : new String[] {"bather", "knows", "foes", "unsure", "felt"}) {
            badAt("", word, 6);
            badAt("   ", word + " a b by 1", 6);
            badAt("", word + ";" + HEAD + ";bather a plain bears 0", 6);
        }
        // the head of one text is none of another one
        ColdPlunge x = Check.of(THREE);
        Check.due("plunge", Check.tell(x, "bather a plain bears 0"), -1);
        Check.due("fault()", x.fault(), 6);

        Sentences.ofTerms("I", "at the end: no bather.");
        bad(HEAD, 6, HEAD.length());
        bad(HEAD + "   ", 6, HEAD.length() + 3);
        bad(HEAD + ";felt 0;felt 1", 6, HEAD.length() + 14);
        good(HEAD + ";bather a plain bears 0", 1);
        x = Check.of(THREE);
        Check.due("plunge", Check.tell(x, HEAD), -1);
        Check.due("fault()", x.fault(), 6);
    }

    private static void newObject() {
        Sentences.ofPromise(1, "No PLUNGE.");
        ColdPlunge x = new ColdPlunge();
        Check.due("trouble()", x.trouble(), 0);
        Check.due("fault()", x.fault(), 0);
        Check.due("where()", x.where(), -1);
        for (int what = 0; what <= 13; what++) {
            Check.due("size(" + what + ")", x.size(what), 0);
        }
        Check.due("led(0)", Check.led(x, 0), -1000);
        Check.refused(x, "company()", x.company(), -1, 1);
        Check.refused(x, "bather(0, 0)", x.bather(0, 0), -1, 1);
        Check.refused(x, "undo()", x.undo(), 6);
        Check.refused(x, "back(0)", x.back(0), 1);
        Check.refused(x, "plunge(1)", x.plunge(1), -1, 2);
        // objects have nothing in common
        ColdPlunge y = Check.of(THREE);
        y.come(0);
        Check.refused(x, "company() of another one", x.company(), -1, 1);
    }

    private static void feed() {
        Sentences.ofPromise(2, "Twenty bytes come behind THE TAPE, of each number the highest first: how many it has;");
        ColdPlunge x = new ColdPlunge();
        Check.due("feed", x.feed(0x706c756e, 0x67652077, 0x61726d20, 0x37206368, 0x696c6c20), 20);
        Check.due("feed behind it", x.feed(0x33206963, 0x65203520, 0x76697369, 0x74732037, 0x3b626174), 40);
        Check.due("size(13)", x.size(13), 40);
        Check.due("feed", x.feed(0x68657220, 0x6120706c, 0x61696e20, 0x62656172, 0x73203920), 60);
        Check.due("plunge(60)", x.plunge(60), 1);
        int[] sizes = {7, 3, 5, 7, 1};
        for (int what = 0; what < 5; what++) {
            Check.due("size(" + what + ")", x.size(what), sizes[what]);
        }
        Check.due("bather(0, 1)", x.bather(0, 1), 9);
        Check.due("feed on the empty tape", x.feed(-1, -1, -1, -1, -1), 20);
        // a byte above 127 is no letter, and one below no sign
        Check.due("plunge(20)", x.plunge(20), -1);
        Check.due("where()", x.where(), 0);
        // the fault is at the twentieth byte, the lowest of the last number
        x.feed(0x20202020, 0x20202020, 0x20202020, 0x20202020, 0x20202021);
        x.plunge(20);
        Check.due("where() of the last byte", x.where(), 19);
        x.feed(0x20202020, 0x20202020, 0x20202020, 0x20202020, 0x21202020);
        x.plunge(20);
        Check.due("where() of the highest byte of the last number", x.where(), 16);
    }

    private static void feedFull() {
        Sentences.ofPromise(2, "NONE, and none comes, if there would be more than 900.");
        String text = " ".repeat(900 - THREE.length()) + THREE;
        ColdPlunge x = new ColdPlunge();
        Check.due("880 bytes", Check.feedText(x, text.substring(0, 880)), 880);
        Check.due("900 bytes", Check.feedText(x, text.substring(880)), 900);
        for (int i = 0; i < 3; i++) {
            Check.due("feed beyond", x.feed(0x21212121, 0, 0, 0, 0), -1);
            Check.due("size(13)", x.size(13), 900);
        }
        Check.due("none came", x.plunge(900), 3);
        Check.due("feed again", x.feed(0, 0, 0, 0, 0), 20);
    }

    private static void plunge() {
        Sentences.ofPromise(3, "The first n bytes of THE TAPE");
        ColdPlunge x = new ColdPlunge();
        Check.feedText(x, THREE + " nonsense");
        Check.due("plunge(n)", x.plunge(THREE.length()), 3);
        Check.feedText(x, THREE + " nonsense");
        Check.due("plunge(n + 2)", x.plunge(THREE.length() + 2), -1);
        Check.due("where()", x.where(), THREE.length() + 1);
        // a token ends with the n-th byte
        Check.feedText(x, HEAD + ";bather a plain bears 999");
        Check.due("plunge(n)", x.plunge(HEAD.length() + 24), 1);
        Check.due("bather(0, 1)", x.bather(0, 1), 99);
        Check.feedText(x, HEAD + ";bather a plain bears 999");
        Check.due("plunge(n - 1)", x.plunge(HEAD.length() + 23), 1);
        Check.due("bather(0, 1)", x.bather(0, 1), 9);
        Check.feedText(x, HEAD + ";bather a plain bears 999");
        Check.due("plunge(n + 1)", x.plunge(HEAD.length() + 25), -1);
        Check.feedText(x, HEAD + ";bather abc plain bears 0;felt 0,abcd");
        Check.due("a NAME ends with the n-th byte", x.plunge(HEAD.length() + 36), 1);
        Check.feedText(x, HEAD + ";bather abc plain bears 0;felt 0,abcd");
        Check.due("a letter less", x.plunge(HEAD.length() + 35), -1);
        Check.due("fault()", x.fault(), 2);
        Check.feedText(x, HEAD + ";bather abc plain bears 0;felt 0,abcd");
        Check.due("a letter more", x.plunge(HEAD.length() + 37), -1);
        Check.due("fault()", x.fault(), 2);
        Check.due("where()", x.where(), HEAD.length() + 33);
        // the last of 900 bytes is a letter, a digit or a sign
        for (String last : new String[] {";felt 0,a", ";felt 0"}) {
            Check.due("900 bytes", Check.tell(x, " ".repeat(900 - (THREE + last).length()) + THREE + last), 3);
        }
        Check.due("900 bytes", Check.tell(x, " ".repeat(899 - THREE.length()) + THREE + ";"), -1);
        Check.due("where()", x.where(), 900);
        // what an earlier, longer text left on the tape doesn't come back
        Check.tell(x, THREE + ";felt 0,a,b,c");
        Check.due("plunge of a shorter one", Check.tell(x, THREE), 3);

        Sentences.ofPromise(3, "(it is empty then)");
        x = Check.of(THREE);
        Check.due("size(13)", x.size(13), 0);
        Check.due("feed", x.feed(0, 0, 0, 0, 0), 20);
        Check.due("a part of them", x.plunge(3), -1);
        Check.due("size(13)", x.size(13), 0);
        Check.refused(x, "plunge(1)", x.plunge(1), -1, 2);

        Sentences.ofPromise(3, ": how many bathers.");
        String bathers = "p0";
        for (int many = 1; many <= 6; many++) {
            Check.due("plunge of " + many, Check.tell(new ColdPlunge(), Texts.of(HEAD, bathers)), many);
            bathers += " p0";
        }
    }

    private static void plungeAnew() {
        Sentences.ofPromise(3, "are the PLUNGE from now on (nobody in; nothing to undo, no IMAGES)");
        for (Edge.Maker maker : Edge.all()) {
            ColdPlunge x = maker.make();
            x.plunge(20);
            Check.due("plunge", Check.tell(x, THREE), 3);
            Check.due("nobody in", x.company(), 0);
            Check.refused(x, "nothing to undo", x.undo(), 6);
            Check.refused(x, "no images", x.back(0), 1);
            int[] sizes = {0, 0, 0, 0, 3, 0, 0, 0, 0, 0, 0, 0, 0, 0};
            for (int what = 0; what < 14; what++) {
                Check.due("size(" + what + ")", x.size(what), sizes[what]);
            }
            for (int b = 0; b < 3; b++) {
                Check.due("bather(" + b + ", 4)", x.bather(b, 4), 0);
                Check.due("bather(" + b + ", 5)", x.bather(b, 5), 0);
            }
            Check.due("fits()", x.fits(), 1);
            Check.due("three images", x.image() + x.image() + x.image(), 3);
        }
        // nothing of any earlier text is left, however many there were, good or faulty
        String rich = Texts.of(Texts.head(60, 9, 30, 100), "t9 t9 t9 h9 h9 h9", "ab9 cd-9 ef?9 ac?9 bd?9 be?9", "0 1a 2b 200abcdef");
        for (int good = 0; good <= 4; good++) {
            for (int faulty = 0; faulty <= 3; faulty++) {
                ColdPlunge x = new ColdPlunge();
                for (int i = 0; i < good; i++) {
                    Check.due("a rich one", Check.tell(x, rich), 6);
                }
                for (int i = 0; i < faulty; i++) {
                    Check.due("a faulty one", Check.tell(x, rich + ";felt 0"), -1);
                }
                plainAnew(x);
            }
        }
        // what can be undone begins anew, too
        ColdPlunge x = Check.of(THREE);
        for (int i = 0; i < 8; i++) {
            x.come(2);
            x.get(2);
        }
        Check.tell(x, THREE);
        x.come(1);
        Check.due("undo()", x.undo(), true);
        Check.refused(x, "undo()", x.undo(), 6);
        Check.due("company()", x.company(), 0);
    }

    private static void plainAnew(ColdPlunge x) {
        String plain = Texts.of(HEAD, "p1 p1 p1 p1 p1 p1");
        Check.due("a plain one", Check.tell(x, plain), 6);
        int[] sizes = {0, 0, 0, 0, 6};
        for (int what = 0; what < 14; what++) {
            Check.due("size(" + what + ")", x.size(what), what < 5 ? sizes[what] : 0);
        }
        for (int b = 0; b < 6; b++) {
            int[] due = {0, 1, 1, 0, 0, 0, 0};
            for (int what = 0; what < 7; what++) {
                Check.due("bather(" + b + ", " + what + ")", x.bather(b, what), due[what]);
            }
        }
        Check.due("warmth(63)", x.warmth(63), 0);
        Check.due("fits()", x.fits(), 1);
        Check.due("judge()", x.judge(), -2);
        // each two can be told of again
        Check.due("all pairs", Check.tell(x, plain + ";knows a b by 1;knows c d by 1;knows e f by 1;foes a c by 1;foes b d by 1;unsure b e by 1"), 6);
    }

    private static void plungeRefused() {
        Sentences.ofPromise(3, "NONE: 2 (THE TAPE stays);");
        Edge.refused(ColdPlunge::new, "plunge(1) of nothing", x -> x.plunge(1), -1, 2);
        for (Edge.Maker maker : Edge.all()) {
            for (int n : new int[] {-1, 21, 900, 901, Integer.MIN_VALUE, Integer.MAX_VALUE}) {
                Edge.refused(maker, "plunge(" + n + ") of 20", x -> x.plunge(n), -1, 2);
            }
        }
        ColdPlunge x = new ColdPlunge();
        Check.feedText(x, THREE);
        int fed = x.size(13);
        Check.refused(x, "plunge(fed + 1)", x.plunge(fed + 1), -1, 2);
        Check.due("size(13)", x.size(13), fed);
        Check.due("plunge(fed)", x.plunge(fed), 3);
        // no bytes are a number, but no text
        x = Check.of(THREE);
        x.feed(0, 0, 0, 0, 0);
        Check.refused(x, "plunge(0)", x.plunge(0), -1, 4);
        Check.due("size(13)", x.size(13), 0);

        Sentences.ofPromise(3, "4 (the PLUNGE stays).");
        String[] texts = {"", "!", "plunge warm 61", HEAD, "bather a plain bears 0", THREE + ";bather a plain bears 0",
            THREE + ";knows a d by 1", SIX + ";bather g plain bears 0"};
        Edge.Maker[] makers = {Edge::one, Edge::four, Edge::six, EdgesOfText::secondText, EdgesOfText::thirdText};
        for (String text : texts) {
            for (Edge.Maker maker : makers) {
                ColdPlunge y = maker.make();
                y.plunge(20);
                String before = Edge.picture(y).replaceFirst("(\\d+ ){14}\\S+ \\d+", "");
                int company = y.company();
                int acts = y.size(11);
                int images = y.size(12);
                Check.refused(y, "plunge", Check.tell(y, text), -1, 4);
                Check.due("who they are", Edge.picture(y).replaceFirst("(\\d+ ){14}\\S+ \\d+", "").equals(before), true);
                Check.due("company()", y.company(), company);
                Check.due("size(11)", y.size(11), acts);
                Check.due("size(12)", y.size(12), images);
                Check.due("size(13)", y.size(13), 0);
                Check.due("undo()", y.undo(), true);
                Check.due("back(0)", y.back(0), true);
            }
        }
    }

    /** A plunge that another one stood ahead of; one act can be undone, and there is an image. */
    private static ColdPlunge secondText() {
        ColdPlunge x = Edge.six();
        x.plunge(20);
        Check.tell(x, Texts.of(Texts.head(9, 3, 4, 70), "t3 h7 p9", "ab4 ac?3", "9ac 13ab"));
        x.come(1);
        x.image();
        x.feed(1, 2, 3, 4, 5);
        return x;
    }

    private static ColdPlunge thirdText() {
        ColdPlunge x = secondText();
        x.plunge(20);
        Check.tell(x, Texts.of(Texts.head(8, 2, 5, 60), "h3 t7 p9 p1", "bc4 ac-3 bd?1", "9bc 12ab"));
        x.come(3);
        x.image();
        x.feed(1, 2, 3, 4, 5);
        return x;
    }

    private static void fault() {
        Sentences.ofPromise(4, "The FAULT of the latest plunge() not refused by 2;");
        ColdPlunge x = new ColdPlunge();
        String[] texts = {"!", THREE + ";felt 0,d", THREE + ";bather a", "plunge warm 61", SIX + ";bather", HEAD};
        for (int fault = 1; fault <= 6; fault++) {
            Check.tell(x, texts[fault - 1]);
            Check.due("fault()", x.fault(), fault);
            x.plunge(-1);
            Check.due("fault() behind plunge(-1)", x.fault(), fault);
            x.plunge(1);
            Check.due("fault() behind plunge(1)", x.fault(), fault);
            x.company();
            x.feed(0, 0, 0, 0, 0);
            Check.due("fault() behind other calls", x.fault(), fault);
            x.plunge(21);
            Check.due("fault() behind plunge(21)", x.fault(), fault);
            x.plunge(0);
            Check.due("fault() of no bytes", x.fault(), 1);
        }

        Sentences.ofPromise(4, "0 without one.");
        Check.due("fault() of a new one", new ColdPlunge().fault(), 0);
        Check.tell(x, THREE);
        Check.due("fault() of a good text", x.fault(), 0);
        x.plunge(-1);
        Check.due("fault() behind plunge(-1)", x.fault(), 0);
        Check.refused(x, "company() stands", x.company(), 0, 0);
    }

    private static void where() {
        Sentences.ofPromise(5, "Its place, if the latest call that may be refused was by 4;");
        ColdPlunge x = new ColdPlunge();
        Check.tell(x, "!");
        Check.due("where() at the first byte", x.where(), 0);
        Check.due("where() again", x.where(), 0);
        Check.feedText(x, " ".repeat(899) + "!");
        x.plunge(900);
        Check.due("where() at the last byte", x.where(), 899);
        x.feed(0, 0, 0, 0, 0);
        x.fault();
        x.trouble();
        x.size(13);
        x.size(-1);
        Check.led(x, 0);
        Check.due("where() behind calls that can't be refused", x.where(), 899);

        Sentences.ofPromise(5, "NONE else.");
        Check.due("where() of a new one", new ColdPlunge().where(), -1);
        Check.due("where() of a good text", Check.of(THREE).where(), -1);
        Edge.Call[] calls = {y -> y.company(), y -> y.bather(0, 0), y -> y.undo() ? 1 : 0, y -> y.back(0) ? 1 : 0, y -> y.plunge(-1),
            y -> y.warmth(0), y -> y.odds(0, true), y -> y.introduce(0, 1) ? 1 : 0, y -> y.image(), y -> y.swim(0, true, true, true)};
        for (Edge.Call call : calls) {
            ColdPlunge y = new ColdPlunge();
            Check.tell(y, "  !");
            Check.due("where() by 4", y.where(), 2);
            call.on(y);
            Check.due("where() behind a call refused by another number", y.where(), -1);
            y = Check.of(THREE);
            Check.tell(y, "  !");
            Check.due("where() by 4", y.where(), 2);
            call.on(y);
            Check.due("where() behind a call that may be refused", y.where(), -1);
        }
    }
}
