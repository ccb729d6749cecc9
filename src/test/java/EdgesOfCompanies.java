/** Of Terms III the baths, and promises 18 to 31: companies. */
final class EdgesOfCompanies {
    private static final String SIX_FREE = "p0 p0 p0 p0 p0 p0";

    private EdgesOfCompanies() {
    }

    static void look() {
        most();
        mostWith();
        warmest();
        coldest();
        bearsWith();
        spoils();
        mends();
        comes();
        comesAt();
        comesAtRefused();
        snugs();
        toCall();
        toSend();
        bathsOfTerms();
        baths();
        bathOf();
    }

    private static ColdPlunge of(int warm, int chill, String bathers, String ties) {
        return Check.of(Texts.of(Texts.head(warm, chill, 0, 0), bathers, ties));
    }

    /** By warm 5: of two who aren't foes ad and bc have 5, all others less. */
    private static ColdPlunge twoPairs() {
        return of(5, 0, "p5 p5 p5 p5", "ab-1 ac-1 bd-1 cd-1");
    }

    private static void most() {
        Sentences.ofPromise(18, "The most bathers of a SNUG COMPANY, as that COMPANY (of like ones the least bits).");
        Check.due("all", of(0, 0, SIX_FREE, "").most(), 63);
        Check.due("nobody", of(0, 0, "p1 p1 p1 p1 p1 p1", "").most(), 0);
        Check.due("one", of(1, 1, "p2 p2 p1", "").most(), 4);
        Check.due("bc ahead of ad", twoPairs().most(), 6);
        Check.due("a alone ahead of b", of(1, 1, "p1 p1", "").most(), 1);
        Check.due("many ahead of least bits", of(5, 0, "p6 p5 p5", "").most(), 6);
        Check.due("5 of 5", of(5, 0, "p5 t0 h10", "").most(), 7);
        Check.due("5 of 6", of(5, 0, "p5 t1 h11", "").most(), 1);

        Sentences.ofPromise(18, "NONE: 1 (no PLUNGE).");
        Edge.withoutPlunge(x -> x.most(), -1);
    }

    private static void mostWith() {
        Sentences.ofPromise(19, "The most with a bather in it, likewise;");
        int[] due = {9, 6, 6, 9};
        for (int b = 0; b < 4; b++) {
            Check.due("mostWith(" + b + ")", twoPairs().mostWith(b), due[b]);
        }
        ColdPlunge x = of(5, 0, "p5 p5 p5", "bc-1");
        Check.due("ab ahead of ac", x.mostWith(0), 3);
        Check.due("ac", x.mostWith(2), 5);
        Check.due("all", of(0, 0, SIX_FREE, "").mostWith(5), 63);
        Check.due("one alone", of(1, 1, "p1 p1", "").mostWith(1), 2);
        Check.due("not alone", of(5, 0, "p6 p0", "ab1").mostWith(0), 3);

        Sentences.ofPromise(19, "-2 none is.");
        ColdPlunge y = of(5, 0, "p6 p0", "");
        Check.refused(y, "mostWith(0)", y.mostWith(0), -2, 0);
        Check.refused(y, "mostWith(1)", y.mostWith(1), 2, 0);

        Sentences.ofPromise(19, "NONE: 1.");
        Edge.bather((z, b) -> z.mostWith(b), -1);
    }

    private static void warmest() {
        Sentences.ofPromise(20, "The warmest COMPANY of so many bathers (0 ..), of like ones the least bits.");
        ColdPlunge x = of(10, 1, "p0 p0 p0 p0", "bc3 ad3 cd-2");
        int[] due = {0, 1, 6, 7, 15};
        // abc 11, abd 11, acd 10, bcd 10
        for (int many = 0; many <= 4; many++) {
            Check.due("warmest(" + many + ")", x.warmest(many), due[many]);
        }
        Check.due("one is warmer", of(10, 1, "p0 p0 p0 p0", "bc3 ad4").warmest(2), 9);
        Check.due("all 0", of(1, 0, "p0 p0 p0", "ab-9 ac-2 bc-1").warmest(2), 3);
        Check.due("1 ahead of 0", of(2, 0, "p0 p0 p0", "ab-9 ac-2 bc-1").warmest(2), 6);
        Check.due("six", of(0, 0, SIX_FREE, "").warmest(6), 63);
        Check.due("the last of six", of(0, 1, SIX_FREE, "ef1").warmest(2), 48);

        Sentences.ofPromise(20, "NONE: 1 (no PLUNGE);");
        Edge.withoutPlunge(y -> y.warmest(0), -1);
        Edge.refused(ColdPlunge::new, "warmest(-1)", y -> y.warmest(-1), -1, 1);
        Edge.refused(ColdPlunge::new, "warmest(1)", y -> y.warmest(1), -1, 1);

        Sentences.ofPromise(20, "2.");
        Edge.bounded(Edge::one, (y, many) -> y.warmest(many), 0, 1, -1, 2);
        Edge.bounded(Edge::four, (y, many) -> y.warmest(many), 0, 4, -1, 2);
        Edge.bounded(Edge::six, (y, many) -> y.warmest(many), 0, 6, -1, 2);
    }

    private static void coldest() {
        Sentences.ofPromise(21, "The coldest COMPANY of so many bathers, likewise.");
        ColdPlunge x = of(10, 1, "p0 p0 p0 p0", "bc-3 ad-3 cd2");
        int[] due = {0, 1, 6, 7, 15};
        // abc 5, abd 5, acd 8, bcd 8
        for (int many = 0; many <= 4; many++) {
            Check.due("coldest(" + many + ")", x.coldest(many), due[many]);
        }
        Check.due("one is colder", of(10, 1, "p0 p0 p0 p0", "bc-3 ad-4").coldest(2), 9);
        Check.due("0 and below are alike", of(1, 0, "p0 p0 p0", "ab-1 ac-2 bc-9").coldest(2), 3);
        Check.due("1 isn't 0", of(2, 0, "p0 p0 p0", "ab-1 ac-2 bc-9").coldest(2), 5);
        Check.due("six", of(0, 0, SIX_FREE, "").coldest(6), 63);

        Sentences.ofPromise(21, "NONE: 1 (no PLUNGE);");
        Edge.withoutPlunge(y -> y.coldest(0), -1);
        Edge.refused(ColdPlunge::new, "coldest(-1)", y -> y.coldest(-1), -1, 1);
        Edge.refused(ColdPlunge::new, "coldest(1)", y -> y.coldest(1), -1, 1);

        Sentences.ofPromise(21, "2.");
        Edge.bounded(Edge::one, (y, many) -> y.coldest(many), 0, 1, -1, 2);
        Edge.bounded(Edge::four, (y, many) -> y.coldest(many), 0, 4, -1, 2);
        Edge.bounded(Edge::six, (y, many) -> y.coldest(many), 0, 6, -1, 2);
    }

    private static void bearsWith() {
        Sentences.ofPromise(22, "The fewest others with whom a bather BEARS it (they needn't), of like ones the least bits;");
        Check.due("nobody, 5 of 5", of(5, 0, "p5 p0", "ab9").bearsWith(0), 0);
        Check.due("b, 6 of 6", of(5, 0, "p6 p99", "ab1").bearsWith(0), 2);
        ColdPlunge x = of(5, 0, "p7 p99 p99 p99", "ab1 ac1 ad1");
        Check.due("bc ahead of bd and cd", x.bearsWith(0), 6);
        Check.due("one ahead of two", of(5, 0, "p7 p99 p99 p99", "ab1 ac1 ad2").bearsWith(0), 8);
        Check.due("all five, 10 of 10", of(5, 0, "p10 p0 p0 p0 p0 p0", "ab1 ac1 ad1 ae1 af1").bearsWith(0), 62);
        Check.due("others among themselves", of(5, 0, "p0 p0 p6", "ab1").bearsWith(2), 3);

        Sentences.ofPromise(22, "-2 there are none such.");
        ColdPlunge y = of(5, 0, "p11 p0 p0 p0 p0 p0", "ab1 ac1 ad1 ae1 af1");
        Check.refused(y, "all five, 10 of 11", y.bearsWith(0), -2, 0);
        ColdPlunge one = of(5, 0, "p6", "");
        Check.refused(one, "one, 5 of 6", one.bearsWith(0), -2, 0);

        Sentences.ofPromise(22, "NONE: 1.");
        Edge.bather((z, b) -> z.bearsWith(b), -1);
    }

    private static void spoils() {
        Sentences.ofPromise(23, "How many COMPANIES without a bather are SNUG, but aren't with him.");
        ColdPlunge x = of(5, 0, "p5 p6", "ab1");
        Check.due("b spoils nobody alone", x.spoils(1), 1);
        Check.due("a none", x.spoils(0), 0);
        Check.due("by 0 b spoils both", of(5, 0, "p5 p6", "").spoils(1), 2);
        Check.due("all of 32", of(0, 0, "p0 p0 p0 p0 p0 p99", "").spoils(5), 32);
        Check.due("none of 32", of(0, 0, SIX_FREE, "").spoils(5), 0);
        Check.due("of one: nobody", of(0, 0, "p1", "").spoils(0), 1);
        Check.due("of one: none", of(0, 0, "p0", "").spoils(0), 0);
        // who isn't snug without him isn't spoilt
        Check.due("two who bear none", of(0, 0, "p1 p1", "").spoils(0), 1);

        Sentences.ofPromise(23, "NONE: 1.");
        Edge.bather((z, b) -> z.spoils(b), -1);
    }

    private static void mends() {
        Sentences.ofPromise(24, "How many COMPANIES without a bather aren't SNUG, but are with him.");
        ColdPlunge x = of(5, 0, "p5 p6", "ab1");
        Check.due("a mends b", x.mends(0), 1);
        Check.due("b none", x.mends(1), 0);
        Check.due("a need more", of(5, 0, "p5 p7", "ab1").mends(0), 0);
        // of b to f each alone has 5 of 6; with a all 31 but nobody have 6 at least
        Check.due("31 of 32", of(5, 0, "p0 p6 p6 p6 p6 p6", "ab1 ac1 ad1 ae1 af1").mends(0), 31);
        Check.due("none of 32", of(0, 0, SIX_FREE, "").mends(0), 0);
        Check.due("of one: none, as nobody is snug", of(5, 0, "p0", "").mends(0), 0);

        Sentences.ofPromise(24, "NONE: 1.");
        Edge.bather((z, b) -> z.mends(b), -1);
    }

    private static void comes() {
        Sentences.ofPromise(25, "1 if a COMPANY can come in one by one so that it is SNUG behind each, else 0.");
        Check.due("nobody", of(0, 0, "p1", "").comes(0), 1);
        Check.due("one of 0", of(0, 0, "p0", "").comes(1), 1);
        Check.due("one of 1", of(0, 0, "p1", "").comes(1), 0);
        Check.due("all six", of(0, 0, SIX_FREE, "").comes(63), 1);
        // b, then a: 6 of 6
        Check.due("by one way of two", of(5, 0, "p6 p5", "ab1").comes(3), 1);
        Check.due("by none, though both bear it", of(5, 0, "p6 p6", "ab1").comes(3), 0);
        Check.due("both don't bear it behind the last", of(5, 1, "p5 p4", "").comes(3), 0);
        Check.due("both do", of(5, 1, "p4 p4", "").comes(3), 1);
        ColdPlunge x = of(5, 0, "p6 p5", "ab1");
        x.come(1);
        Check.due("whoever is in", x.comes(1), 0);

        Sentences.ofPromise(25, "NONE: 1 (no PLUNGE);");
        Edge.withoutPlunge(y -> y.comes(0), -1);

        Sentences.ofPromise(25, "2.");
        Edge.company((y, set) -> y.comes(set), -1);
    }

    private static void order(ColdPlunge x, int set, int... due) {
        for (int i = 0; i < due.length; i++) {
            Check.due("comesAt(" + set + ", " + i + ")", x.comesAt(set, i), due[i]);
            Check.due("trouble()", x.trouble(), 0);
        }
        Check.refused(x, "the next", x.comesAt(set, due.length), -1, 1);
    }

    private static void comesAt() {
        Sentences.ofPromise(26, "The i-th who comes by the first such order (bather by bather).");
        order(of(0, 0, SIX_FREE, ""), 63, 0, 1, 2, 3, 4, 5);
        order(of(0, 0, SIX_FREE, ""), 42, 1, 3, 5);
        order(of(0, 0, SIX_FREE, ""), 0);
        order(of(5, 0, "p6 p5", "ab1"), 3, 1, 0);
        // a can come first, but then nobody else: ab and ac have 4 of 5; bc has 14, all have 12
        order(of(5, 0, "p5 p4 p10", "ab-1 ac-1 bc9"), 7, 1, 2, 0);
        order(of(5, 0, "p5 p4 p4", "ab-1 ac-1 bc9"), 7, 1, 2, 0);
        order(of(5, 0, "p5 p10 p4", "ab-1 ac-1 bc9"), 7, 2, 1, 0);
        // one by one from the last on: each bears it with all behind him alone
        order(of(0, 0, "p15 p10 p6 p3 p1 p0", "ab1 ac1 ad1 ae1 af1 bc1 bd1 be1 bf1 cd1 ce1 cf1 de1 df1 ef1"), 63, 5, 4, 3, 2, 1, 0);
    }

    private static void comesAtRefused() {
        Sentences.ofPromise(26, "NONE: 1 (no PLUNGE; i, or there is none such);");
        Edge.withoutPlunge(x -> x.comesAt(2, 0), -1);
        for (int set : new int[] {-1, 0, 1}) {
            Edge.refused(ColdPlunge::new, "comesAt(" + set + ", 0)", x -> x.comesAt(set, 0), -1, 1);
        }
        Edge.Maker six = () -> of(0, 0, SIX_FREE, "");
        for (int many = 1; many <= 6; many++) {
            int set = (1 << many) - 1;
            Edge.bounded(six, (x, i) -> x.comesAt(set, i), 0, many - 1, -1, 1);
        }
        for (int i : new int[] {-1, 0, 1, 6, Integer.MIN_VALUE, Integer.MAX_VALUE}) {
            Edge.refused(six, "of nobody, " + i, x -> x.comesAt(0, i), -1, 1);
            Edge.refused(() -> of(5, 0, "p6 p6", "ab1"), "there is no order, " + i, x -> x.comesAt(3, i), -1, 1);
        }

        Sentences.ofPromise(26, "2.");
        for (int i : new int[] {-1, 0, 6}) {
            for (int set : new int[] {-1, 64, Integer.MIN_VALUE, Integer.MAX_VALUE}) {
                Edge.refused(six, "comesAt(" + set + ", " + i + ")", x -> x.comesAt(set, i), -1, 2);
            }
        }
        Edge.taken(six, "comesAt(63, 0)", x -> x.comesAt(63, 0), 0);
        Edge.refused(() -> of(0, 0, "p0", ""), "comesAt(2, 0)", x -> x.comesAt(2, 0), -1, 2);
    }

    private static void snugs() {
        Sentences.ofPromise(27, "How many COMPANIES are SNUG (nobody, too).");
        Check.due("nobody alone", of(0, 0, "p1 p1 p1 p1 p1 p1", "").snugs(), 1);
        Check.due("all", of(0, 0, SIX_FREE, "").snugs(), 64);
        Check.due("all of one", of(0, 0, "p0", "").snugs(), 2);
        Check.due("nobody, each, ad, bc", twoPairs().snugs(), 7);
        ColdPlunge x = of(5, 1, "p6 p0 p6", "ab1 bc1");
        // nobody, b, ab, bc, abc: 5 and 2 less 1
        Check.due("snugs()", x.snugs(), 5);
        x.introduce(0, 2);
        Check.due("introduced: ac, too", x.snugs(), 6);

        Sentences.ofPromise(27, "NONE: 1 (no PLUNGE).");
        Edge.withoutPlunge(y -> y.snugs(), -1);
    }

    private static void toCall() {
        Sentences.ofPromise(28, "The one out of the bath by whom, come in, WARMTH of who is in gets most, the first such;");
        ColdPlunge x = of(10, 1, "p0 p0 p0 p0", "ab2 ac3 ad3");
        Check.due("of all alike", x.toCall(), 0);
        x.come(0);
        Check.due("c ahead of d", x.toCall(), 2);
        x.come(2);
        Check.due("d: 15, b: 14", x.toCall(), 3);
        x.get(0);
        // with c alone: a 13, b and d 9
        Check.due("toCall()", x.toCall(), 0);
        ColdPlunge y = of(1, 0, "p0 p0 p0", "ab-9 cb-1");
        y.come(1);
        Check.due("both to 0: the first", y.toCall(), 0);
        ColdPlunge z = of(2, 0, "p0 p0 p0", "ab-9 cb-1");
        z.come(1);
        Check.due("1 ahead of 0", z.toCall(), 2);
        Check.due("nobody comes by asking", z.company(), 2);

        Sentences.ofPromise(28, "-2 all are in.");
        ColdPlunge one = of(0, 0, "p0", "");
        Check.refused(one, "toCall()", one.toCall(), 0, 0);
        one.come(0);
        Check.refused(one, "toCall()", one.toCall(), -2, 0);
        ColdPlunge six = of(0, 0, SIX_FREE, "");
        for (int b = 0; b < 6; b++) {
            Check.refused(six, "toCall()", six.toCall(), b, 0);
            six.come(b);
        }
        Check.refused(six, "toCall()", six.toCall(), -2, 0);

        Sentences.ofPromise(28, "NONE: 1 (no PLUNGE).");
        Edge.withoutPlunge(w -> w.toCall(), -1);
    }

    private static void toSend() {
        Sentences.ofPromise(29, "The one in by whom, got out, WARMTH gets most, the first such;");
        ColdPlunge x = of(10, 1, "p0 p0 p0 p0", "ab2 ac3 ad3");
        x.come(3);
        Check.due("one alone", x.toSend(), 3);
        x.come(2);
        Check.due("10 and 10: the first", x.toSend(), 2);
        x.come(0);
        // without a 9, c 13, d 13
        Check.due("c ahead of d", x.toSend(), 2);
        x.come(1);
        // without b 15, c 14, d 14
        Check.due("toSend()", x.toSend(), 1);
        Check.due("nobody gets out by asking", x.company(), 15);
        ColdPlunge y = of(1, 0, "p0 p0 p0", "ab-9 bc-1 ac-2");
        for (int b = 0; b < 3; b++) {
            y.come(b);
        }
        Check.due("all to 0: the first", y.toSend(), 0);

        Sentences.ofPromise(29, "-2 nobody is in.");
        ColdPlunge z = of(0, 0, "p0 p0", "");
        Check.refused(z, "toSend()", z.toSend(), -2, 0);
        z.come(1);
        Check.refused(z, "toSend()", z.toSend(), 1, 0);
        z.get(1);
        Check.refused(z, "toSend()", z.toSend(), -2, 0);

        Sentences.ofPromise(29, "NONE: 1 (no PLUNGE).");
        Edge.withoutPlunge(w -> w.toSend(), -1);
    }

    private static void row(ColdPlunge x, int many, int... row) {
        Check.refused(x, "baths()", x.baths(), many, 0);
        for (int b = 0; b < row.length; b++) {
            Check.refused(x, "bathOf(" + b + ")", x.bathOf(b), row[b], 0);
        }
    }

    private static void bathsOfTerms() {
        Sentences.ofTerms("III", "BATHS: the fewest SNUG COMPANIES by which each bather is in just one;");
        row(of(0, 0, SIX_FREE, ""), 1, 0, 0, 0, 0, 0, 0);
        // ad, bc have 5, and so has each alone
        row(twoPairs(), 2, 0, 1, 1, 0);
        // ab and bc bear it, but b is in just one, so who is left does it alone
        row(of(5, 0, "p5 p5 p5", "ac-9"), 2, 0, 0, 1);

        Sentences.ofTerms("III", "of like ones the first row of numbers by bathers (a bather's: that of his COMPANY, by the first one in it, from 0 on).");
        // all pairs do, three don't: 0 0 1 1 is ahead of 0 1 0 1 and 0 1 1 0
        row(of(9, 4, "p5 p5 p5 p5", ""), 2, 0, 0, 1, 1);
        row(of(9, 4, "p5 p5 p5 p5", "ab-5"), 2, 0, 1, 0, 1);
        row(of(9, 4, "p5 p5 p5 p5", "ab-5 ac-5"), 2, 0, 1, 1, 0);
        // 0 0 1 2 would be ahead, but has one bath more than 0 1 0 1
        row(of(9, 4, "p5 p5 p5 p5", "cd-5 ad-5"), 2, 0, 1, 0, 1);
        row(of(9, 4, "p5 p5 p5 p5 p5", ""), 3, 0, 0, 1, 1, 2);

        Sentences.ofTerms("III", "There may be none.");
        // a bears it with b alone, c with b alone
        row(of(5, 0, "p6 p0 p6", "ab1 bc1 ac-9"), -2, -2, -2, -2);
        row(of(5, 0, "p6 p0 p6", "ab1 bc1"), 1, 0, 0, 0);
    }

    private static void baths() {
        Sentences.ofPromise(30, "BATHS: how many;");
        for (int many = 1; many <= 6; many++) {
            String bathers = "p1" + " p1".repeat(many - 1);
            Check.due("each alone", of(1, 1, bathers, "").baths(), many);
            Check.due("all together", of(1, 0, bathers, "").baths(), 1);
        }
        ColdPlunge x = of(5, 1, "p6 p0 p6", "ab1 bc1 ac-3");
        // all have 4; a with b, but c not alone
        Check.due("none", x.baths(), -2);
        ColdPlunge y = of(9, 9, "p1 p1 p1", "ac1 bc1");
        // ac and b: ab has 0, all have 2
        Check.due("all", y.baths(), 1);
        ColdPlunge z = of(9, 9, "p3 p1 p1", "ac1 bc1");
        Check.due("all have 2 of 3", z.baths(), 2);
        z.introduce(0, 1);
        Check.due("introduced", z.baths(), 1);

        Sentences.ofPromise(30, "-2 none.");
        row(of(0, 0, "p0 p0 p1", ""), -2, -2, -2, -2);
        row(of(0, 0, "p0 p0 p0", ""), 1, 0, 0, 0);

        Sentences.ofPromise(30, "NONE: 1 (no PLUNGE).");
        Edge.withoutPlunge(w -> w.baths(), -1);
    }

    private static void bathOf() {
        Sentences.ofPromise(31, "In which of them a bather is (0 ..);");
        row(of(1, 1, "p1 p1 p1 p1 p1 p1", ""), 6, 0, 1, 2, 3, 4, 5);
        row(of(1, 0, "p1 p1 p1 p1 p1 p1", ""), 1, 0, 0, 0, 0, 0, 0);
        row(of(0, 0, "p0", ""), 1, 0);

        Sentences.ofPromise(31, "-2.");
        ColdPlunge x = of(0, 0, "p0 p1", "");
        Check.refused(x, "bathOf(0)", x.bathOf(0), -2, 0);
        Check.refused(x, "bathOf(1)", x.bathOf(1), -2, 0);

        Sentences.ofPromise(31, "NONE: 1.");
        Edge.bather((z, b) -> z.bathOf(b), -1);
    }
}
