/** What the tests of edges share: calls that are refused, on both sides of the edge, and that they change nothing. */
final class Edge {
    interface Call {
        long on(ColdPlunge x);
    }

    interface NumberCall {
        long on(ColdPlunge x, int number);
    }

    interface Maker {
        ColdPlunge make();
    }

    private Edge() {
    }

    /** One bather, who is in, with an image and bytes on the tape. */
    static ColdPlunge one() {
        ColdPlunge x = Check.of(Texts.of(Texts.head(10, 2, 5, 50), "p8"));
        x.come(0);
        x.image();
        x.feed(1, 2, 3, 4, 5);
        return x;
    }

    /** Four bathers, of whom a and d were introduced by b, and a, b and d are in. */
    static ColdPlunge four() {
        ColdPlunge x = Check.of(Texts.of(Texts.head(10, 2, 5, 50), "p8 t4 h15 p12", "ab3 bc4 bd1 ac-5 cd?6", "8ad 10"));
        x.come(0);
        x.come(1);
        x.introduce(0, 3);
        x.image();
        x.come(3);
        x.feed(1, 2, 3, 4, 5);
        return x;
    }

    /** Six bathers in a row; a bears more than there is, so a minute has passed, and all but a are in. */
    static ColdPlunge six() {
        ColdPlunge x = Check.of(Texts.of(Texts.head(5, 0, 6, 25), "p9 p0 p0 p0 p0 h5", "ab1 bc1 cd1 de1 ef1"));
        x.come(0);
        x.minute();
        for (int b = 1; b < 6; b++) {
            x.come(b);
        }
        x.introduce(0, 2);
        x.image();
        x.image();
        x.feed(1, 2, 3, 4, 5);
        return x;
    }

    static Maker[] all() {
        return new Maker[] {Edge::one, Edge::four, Edge::six};
    }

    /** All that can be seen without changing more than trouble(). */
    static String picture(ColdPlunge x) {
        StringBuilder seen = new StringBuilder();
        for (int what = 0; what < 14; what++) {
            seen.append(x.size(what)).append(' ');
        }
        seen.append(x.company()).append(' ').append(x.fault());
        for (int b = 0; b < x.size(4); b++) {
            for (int what = 0; what < 7; what++) {
                seen.append(' ').append(x.bather(b, what));
            }
            for (int other = 0; other < b; other++) {
                seen.append(' ').append(x.ties(b, other));
            }
        }
        return seen.append(' ').append(x.fits()).append(' ').append(x.judge()).toString();
    }

    static void refused(Maker maker, String name, Call call, long answer, int trouble) {
        ColdPlunge x = maker.make();
        String before = picture(x);
        long got = call.on(x);
        Check.due(name, got, answer);
        Check.due(name + ", trouble()", x.trouble(), trouble);
        Check.due(name + ", where()", x.where(), -1);
        Check.due(name + " changes nothing", picture(x).equals(before), true);
    }

    /** Not refused, whatever was refused before. */
    static void taken(Maker maker, String name, Call call) {
        ColdPlunge x = maker.make();
        x.bather(-1, 0);
        call.on(x);
        Check.due(name + ", trouble()", x.trouble(), 0);
    }

    static void taken(Maker maker, String name, Call call, long answer) {
        ColdPlunge x = maker.make();
        x.bather(-1, 0);
        Check.due(name, call.on(x), answer);
        Check.due(name + ", trouble()", x.trouble(), 0);
    }

    /** Refused by 1 as long as no plunge stands, and never by that once one does. */
    static void withoutPlunge(Call call, long answer) {
        refused(ColdPlunge::new, "without a plunge", call, answer, 1);
        refused(() -> {
            ColdPlunge x = new ColdPlunge();
            Check.tell(x, "plunge warm 61");
            return x;
        }, "behind a faulty text", call, answer, 1);
        for (Maker maker : all()) {
            notBy1(maker, "with a plunge", call);
        }
        notBy1(() -> {
            ColdPlunge x = four();
            x.plunge(20);
            return x;
        }, "a faulty text behind a plunge", call);
    }

    private static void notBy1(Maker maker, String name, Call call) {
        ColdPlunge x = maker.make();
        x.bather(-1, 0);
        call.on(x);
        Check.due(name + ", trouble() isn't 1", x.trouble() != 1, true);
    }

    /** Refused below the least and above the greatest, and by no number between. */
    static void bounded(Maker maker, NumberCall call, int least, int greatest, long answer, int trouble) {
        for (int number : new int[] {least, greatest, (least + greatest) / 2}) {
            taken(maker, "with " + number, x -> call.on(x, number));
        }
        int[] wrong = {least - 1, greatest + 1, least - 33, greatest + 32, Integer.MIN_VALUE, Integer.MAX_VALUE};
        for (int number : wrong) {
            refused(maker, "with " + number, x -> call.on(x, number), answer, trouble);
        }
    }

    /** A COMPANY: no bits but those of the bathers. */
    static void company(NumberCall call, long answer) {
        bounded(Edge::one, call, 0, 1, answer, 2);
        bounded(Edge::four, call, 0, 15, answer, 2);
        bounded(Edge::six, call, 0, 63, answer, 2);
        for (int set : new int[] {-1, 1, 64}) {
            refused(ColdPlunge::new, "without a plunge, with " + set, x -> call.on(x, set), answer, 1);
        }
    }

    /** A bather's number; trouble 1 without a plunge, too. */
    static void bather(NumberCall call, long answer) {
        bounded(Edge::one, call, 0, 0, answer, 1);
        bounded(Edge::four, call, 0, 3, answer, 1);
        bounded(Edge::six, call, 0, 5, answer, 1);
        for (int b : new int[] {-1, 0, 1}) {
            refused(ColdPlunge::new, "without a plunge, with " + b, x -> call.on(x, b), answer, 1);
        }
    }

    interface PairCall {
        long on(ColdPlunge x, int b, int other);
    }

    /** Two who must be unlike. */
    static void two(PairCall call, long answer) {
        refused(ColdPlunge::new, "without a plunge", x -> call.on(x, 0, 1), answer, 1);
        for (int b = 0; b < 4; b++) {
            int same = b;
            refused(Edge::four, "like ones, " + b, x -> call.on(x, same, same), answer, 1);
        }
        int[] wrong = {-1, 4, 5, 32, Integer.MIN_VALUE, Integer.MAX_VALUE};
        for (int number : wrong) {
            refused(Edge::four, "with 3, " + number, x -> call.on(x, 3, number), answer, 1);
            refused(Edge::four, number + " with 0", x -> call.on(x, number, 0), answer, 1);
            refused(Edge::four, number + " twice", x -> call.on(x, number, number), answer, 1);
        }
        refused(Edge::one, "one alone", x -> call.on(x, 0, 1), answer, 1);
        refused(Edge::one, "one alone, twice", x -> call.on(x, 0, 0), answer, 1);
    }
}
