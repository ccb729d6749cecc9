/** Of Terms III the introductions, and promises 32 to 37. */
final class EdgesOfIntroductions {
    /** Each knows the next; the first and the last bear 6, and have it with one whom they know. */
    private static final String ROW = Texts.of(Texts.head(5, 1, 0, 0), "p6 p0 p0 p0 p0 p6", "ab1 bc1 cd1 de1 ef1");

    private static final String ROW_AND_ENDS = "ab1 bc1 cd1 de1 df1 fa1";

    private EdgesOfIntroductions() {
    }

    static void look() {
        introductionOfTerms();
        fewestOfTerms();
        canMeet();
        meetings();
        fewest();
        firstMeeting();
        between();
        circles();
    }

    private static ColdPlunge of(int warm, int chill, String bathers, String ties) {
        return Check.of(Texts.of(Texts.head(warm, chill, 0, 0), bathers, ties));
    }

    /** a knows all others, who are strangers; b bears so much, c and d nothing. bcd have 0: 6 less than 0, each introduction 3 more. */
    private static ColdPlunge star(int bears) {
        return of(0, 2, "p0 p" + bears + " p0 p0", "ab9 ac9 ad9");
    }

    /** Two strangers who have 4 of 5, and the first of the others knows both. */
    private static ColdPlunge knownToThird(int b, int other) {
        int third = b > 0 ? 0 : other > 1 ? 1 : 2;
        StringBuilder bathers = new StringBuilder();
        for (int i = 0; i < 6; i++) {
            bathers.append(i > 0 ? " " : "").append(i == b || i == other ? "p5" : "p0");
        }
        String ties = (char) ('a' + third) + "" + (char) ('a' + b) + "1 " + (char) ('a' + third) + (char) ('a' + other) + "1";
        return of(5, 1, bathers.toString(), ties);
    }

    private static void introductionOfTerms() {
        Sentences.ofTerms("III", "INTRODUCTION: two STRANGERS know each other by 1 from then on;");
        ColdPlunge x = of(10, 4, "p0 p0 p0", "ac9 bc9");
        Check.due("warmth(3)", x.warmth(3), 6);
        Check.due("introduce(0, 1)", x.introduce(0, 1), true);
        Check.due("ties(0, 1)", x.ties(0, 1), 1);
        Check.due("warmth(3)", x.warmth(3), 11);
        Check.refused(x, "not again", x.introduce(1, 0), 5);
        Check.due("ties(0, 1)", x.ties(0, 1), 1);
        x.come(0);
        x.get(0);
        Check.due("still", x.ties(1, 0), 1);
        // unsure ones are strangers, too, whatever was told
        ColdPlunge unsure = of(10, 4, "p0 p0 p0", "ac9 bc9 ab?7");
        Check.due("introduce(0, 1)", unsure.introduce(0, 1), true);
        Check.due("by 1", unsure.ties(0, 1), 1);
        ColdPlunge foes = of(10, 4, "p0 p0 p0", "ac9 bc9 ab-1");
        Check.refused(foes, "foes", foes.introduce(0, 1), 5);

        Sentences.ofTerms("III", "a third one must know both (in the bath or not).");
        for (String ties : new String[] {"ac1 bc1", "ac9 bc1", "cb1 ca1"}) {
            ColdPlunge y = of(10, 4, "p0 p0 p0", ties);
            Check.due("c is out, by " + ties, y.canMeet(0, 1), 1);
            y.come(2);
            Check.due("c is in, by " + ties, y.canMeet(0, 1), 1);
            Check.due("introduce(0, 1)", y.introduce(0, 1), true);
        }
        for (String ties : new String[] {"ac1", "bc1", "ac1 bc-1", "ac-1 bc-1", "ac1 bc?1", "ac?1 bc?1", "ac1 bd1", ""}) {
            ColdPlunge y = of(10, 4, "p0 p0 p0 p0", ties);
            Check.refused(y, "by " + ties, y.introduce(0, 1), 6);
            Check.due("by " + ties, y.canMeet(0, 1), 0);
        }
        // who was introduced introduces
        ColdPlunge row = Check.of(ROW);
        Check.refused(row, "a d", row.introduce(0, 3), 6);
        Check.due("a c", row.introduce(0, 2), true);
        Check.due("a d", row.introduce(0, 3), true);
    }

    private static void fewestOfTerms() {
        Sentences.ofTerms("III", "FEWEST for a COMPANY: so few INTRODUCTIONS (3 at most), one behind the other, of any two, that it is SNUG: how many.");
        ColdPlunge row = Check.of(ROW);
        Check.due("ab: none", row.fewest(3), 0);
        Check.due("ac: a c", row.fewest(5), 1);
        Check.due("ad: a c, a d", row.fewest(9), 2);
        Check.due("ae: a c, a d, a e", row.fewest(17), 3);
        Check.due("af: four", row.fewest(33), -2);
        row.introduce(0, 2);
        Check.due("af: three more", row.fewest(33), 3);
        Check.due("nobody is introduced by asking", row.size(9), 1);
        // an introduction of others brings nothing but the next one: ad have 4, and 6 behind two
        for (int bears = 4; bears <= 9; bears++) {
            ColdPlunge four = of(5, 1, "p" + bears + " p0 p0 p0", "ab1 bc1 cd1");
            Check.due("ad by " + bears, four.fewest(9), bears <= 4 ? 0 : bears <= 6 ? 2 : -2);
            Check.due("abd by " + bears, four.fewest(11), bears <= 4 ? 0 : bears <= 6 ? 1 : bears <= 8 ? 2 : -2);
        }
        // one alone is warmed by none, whoever he is
        for (int b = 0; b < 6; b++) {
            String bathers = "p0 ".repeat(b) + "p6" + " p0".repeat(5 - b);
            Check.due(b + " alone", of(5, 1, bathers, ROW_AND_ENDS).fewest(1 << b), -2);
            Check.due(b + " alone", of(6, 1, bathers, ROW_AND_ENDS).fewest(1 << b), 0);
        }
        int[] fewest = {0, 3, 3, 3, -2};
        for (int bears = 0; bears <= 4; bears++) {
            Check.due("bcd by " + bears, star(bears).fewest(14), fewest[bears]);
        }
    }

    private static void canMeet() {
        Sentences.ofPromise(32, "1 if two can be INTRODUCED NOW, else 0.");
        ColdPlunge x = of(0, 0, "p0 p0 p0 p0 p0", "ab1 bc1 bd1 cd-1");
        int[][] due = {{0, 1, 0}, {0, 2, 1}, {0, 3, 1}, {0, 4, 0}, {1, 2, 0}, {2, 3, 0}, {3, 4, 0}};
        for (int[] one : due) {
            Check.due("canMeet(" + one[0] + ", " + one[1] + ")", x.canMeet(one[0], one[1]), one[2]);
            Check.due("canMeet(" + one[1] + ", " + one[0] + ")", x.canMeet(one[1], one[0]), one[2]);
        }
        ColdPlunge row = Check.of(ROW);
        Check.due("canMeet(0, 3)", row.canMeet(0, 3), 0);
        row.introduce(0, 2);
        Check.due("canMeet(0, 3) now", row.canMeet(0, 3), 1);
        Check.due("canMeet(0, 2) now", row.canMeet(0, 2), 0);
        row.undo();
        Check.due("canMeet(0, 3) again", row.canMeet(0, 3), 0);
        Check.due("canMeet(0, 2) again", row.canMeet(0, 2), 1);

        Sentences.ofPromise(32, "NONE: 1 (unlike).");
        Edge.two((y, b, other) -> y.canMeet(b, other), -1);
        Edge.taken(Edge::six, "canMeet(0, 5)", y -> y.canMeet(0, 5), 0);
        Edge.taken(Edge::six, "canMeet(5, 4)", y -> y.canMeet(5, 4), 0);
        Edge.taken(Edge::six, "canMeet(3, 5)", y -> y.canMeet(3, 5), 1);
    }

    private static void meetings() {
        Sentences.ofPromise(33, "How many pairs can be INTRODUCED NOW.");
        Check.due("one", of(0, 0, "p0", "").meetings(), 0);
        Check.due("strangers", of(0, 0, "p0 p0 p0 p0 p0 p0", "").meetings(), 0);
        Check.due("one knows all", of(0, 0, "p0 p0 p0 p0 p0 p0", "fa1 fb1 fc1 fd1 fe1").meetings(), 10);
        Check.due("all know each other", of(0, 0, "p0 p0 p0", "ab1 ac1 bc1").meetings(), 0);
        Check.due("foes", of(0, 0, "p0 p0 p0", "ab1 ac1 bc-1").meetings(), 0);
        Check.due("unsure ones", of(0, 0, "p0 p0 p0", "ab1 ac1 bc?1").meetings(), 1);
        ColdPlunge row = Check.of(ROW);
        Check.due("a row", row.meetings(), 4);
        row.introduce(0, 2);
        // b d, c e, d f and a d
        Check.due("a row", row.meetings(), 4);

        Sentences.ofPromise(33, "NONE: 1 (no PLUNGE).");
        Edge.withoutPlunge(y -> y.meetings(), -1);
    }

    private static void fewest() {
        Sentences.ofPromise(34, "FEWEST;");
        Check.due("nobody", Check.of(ROW).fewest(0), 0);
        Check.due("5 of 5", of(5, 0, "p5", "").fewest(1), 0);
        // below 0 counts in full: 5 less 9 less 9 less 9; introductions bring 10 each
        ColdPlunge x = of(5, 9, "p1 p0 p0 p0", "ad9 bd9 cd9");
        Check.due("abc: 2 introductions have 0, 3 have 8", x.fewest(7), 3);
        Check.due("ab: 1 has 6", x.fewest(3), 1);
        Check.due("abcd: 5 and 27 less 27", x.fewest(15), 0);
        x.introduce(0, 1);
        Check.due("abc", x.fewest(7), 2);
        x.introduce(0, 2);
        Check.due("abc", x.fewest(7), 1);
        x.introduce(1, 2);
        Check.due("abc", x.fewest(7), 0);

        Sentences.ofPromise(34, "-2 three aren't enough.");
        ColdPlunge y = Check.of(ROW);
        Check.refused(y, "fewest(33)", y.fewest(33), -2, 0);
        Check.refused(y, "one alone", y.fewest(1), -2, 0);
        Check.refused(y, "fewest(17)", y.fewest(17), 3, 0);
        ColdPlunge strangers = of(5, 1, "p6 p0", "");
        Check.refused(strangers, "whom nobody knows", strangers.fewest(3), -2, 0);

        Sentences.ofPromise(34, "NONE: 1 (no PLUNGE);");
        Edge.withoutPlunge(z -> z.fewest(0), -1);

        Sentences.ofPromise(34, "2.");
        Edge.company((z, set) -> z.fewest(set), -1);
    }

    private static void firstMeeting() {
        Sentences.ofPromise(35, "The first INTRODUCTION of the first such row (pairs by the lesser one, then the other one): "
            + "10 times the lesser and the other one;");
        ColdPlunge row = Check.of(ROW);
        Check.due("ac", row.firstMeeting(5), 2);
        Check.due("ae", row.firstMeeting(17), 2);
        Check.due("df", row.firstMeeting(40), 35);
        // each two whom a third one knows
        for (int b = 0; b < 6; b++) {
            for (int other = b + 1; other < 6; other++) {
                ColdPlunge two = knownToThird(b, other);
                int set = 1 << b | 1 << other;
                Check.due("fewest(" + set + ")", two.fewest(set), 1);
                Check.due("firstMeeting(" + set + ")", two.firstMeeting(set), 10 * b + other);
            }
        }
        // c f: by c e, c f or by d f, c f
        Check.due("cf", row.firstMeeting(36), 24);
        // three of bcd: b c, b d, c d
        Check.due("bcd", star(3).firstMeeting(14), 12);
        // one of three is enough: the first
        Check.due("bcd", of(6, 2, "p0 p3 p0 p0", "ab9 ac9 ad9").firstMeeting(14), 12);
        // b c are foes: b d
        Check.due("bcd", of(6, 2, "p0 p3 p0 p0", "ab9 ac9 ad9 bc-2").firstMeeting(14), 13);
        // of those two needed the first is of others: a c by d, then b c by a; or b d by a, then b c by d
        Check.due("bc", of(5, 2, "p0 p6 p6 p0", "ad1 cd1 ab1").firstMeeting(6), 2);

        Sentences.ofPromise(35, "-2 none is needed, or three aren't enough.");
        Check.refused(row, "none is needed", row.firstMeeting(3), -2, 0);
        Check.refused(row, "nobody", row.firstMeeting(0), -2, 0);
        Check.refused(row, "three aren't enough", row.firstMeeting(33), -2, 0);
        Check.refused(row, "none helps", row.firstMeeting(1), -2, 0);
        Check.refused(row, "three are", row.firstMeeting(34), 13, 0);
        ColdPlunge x = star(4);
        Check.refused(x, "three aren't enough", x.firstMeeting(14), -2, 0);

        Sentences.ofPromise(35, "NONE: likewise.");
        Edge.withoutPlunge(z -> z.firstMeeting(0), -1);
        Edge.company((z, set) -> z.firstMeeting(set), -1);
    }

    private static void between() {
        Sentences.ofPromise(36, "Over how many others two know each other at least (0: they do);");
        ColdPlunge row = Check.of(ROW);
        for (int b = 0; b < 6; b++) {
            for (int other = 0; other < b; other++) {
                Check.due("between(" + b + ", " + other + ")", row.between(b, other), b - other - 1);
                Check.due("between(" + other + ", " + b + ")", row.between(other, b), b - other - 1);
            }
        }
        row.introduce(0, 2);
        Check.due("between(0, 5) now", row.between(0, 5), 3);
        row.undo();
        Check.due("between(0, 5) again", row.between(0, 5), 4);
        Check.due("the shorter of two ways", of(0, 0, "p0 p0 p0 p0 p0", "ab1 bc1 cd1 de1 ea1").between(0, 3), 1);
        Check.due("foes over a third", of(0, 0, "p0 p0 p0", "ab-1 ac1 bc1").between(0, 1), 1);

        Sentences.ofPromise(36, "-2 not at all.");
        for (String ties : new String[] {"", "ab-1", "ab?1", "ac1 bd1", "ac1 bc-1", "ac1 bc?1"}) {
            ColdPlunge x = of(0, 0, "p0 p0 p0 p0", ties);
            Check.refused(x, "by " + ties, x.between(0, 1), -2, 0);
        }

        Sentences.ofPromise(36, "NONE: 1 (unlike).");
        Edge.two((y, b, other) -> y.between(b, other), -1);
        Edge.taken(Edge::six, "between(5, 4)", y -> y.between(5, 4), 0);
    }

    private static void circles() {
        Sentences.ofPromise(37, "Sets of bathers each of whom knows another one, through others too: how many (one who knows nobody is one).");
        Check.due("one", of(0, 0, "p0", "").circles(), 1);
        Check.due("six who know nobody", of(0, 0, "p0 p0 p0 p0 p0 p0", "").circles(), 6);
        Check.due("foes and unsure ones", of(0, 0, "p0 p0 p0 p0 p0 p0", "ab-1 cd?1").circles(), 6);
        Check.due("a row of six", Check.of(ROW).circles(), 1);
        Check.due("a row, backwards", of(0, 0, "p0 p0 p0 p0 p0 p0", "af1 fb1 be1 ec1 cd1").circles(), 1);
        Check.due("three twos", of(0, 0, "p0 p0 p0 p0 p0 p0", "af1 be1 cd1").circles(), 3);
        Check.due("three, two and one", of(0, 0, "p0 p0 p0 p0 p0 p0", "ac1 ce1 bd1").circles(), 3);
        ColdPlunge x = of(0, 0, "p0 p0 p0", "ab1 bc1");
        x.introduce(0, 2);
        Check.due("introductions join none", x.circles(), 1);

        Sentences.ofPromise(37, "NONE: 1 (no PLUNGE).");
        Edge.withoutPlunge(y -> y.circles(), -1);
    }
}
