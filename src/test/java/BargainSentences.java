/** BINDS, WORTH, STRUCK, AT ONCE: Terms, part 2, and the promises 11 to 14. */
final class BargainSentences extends Ground {
    BargainSentences(Book book) {
        super(book);
    }

    @Override
    void run() {
        justDue();
        nearer();
        clearOfTheTwo();
        trade();
        itBinds();
        worthOfOne();
        struck();
        binds();
        bindsRefuses();
        pairs();
        mostPairs();
        mostWorth();
        leastRow();
        once();
        worth();
    }

    private void bindsIs(String of, int want) {
        due("binds(0, 1, 0), " + of, want, x.binds(0, 1, 0));
        due("binds(1, 0, 0), " + of, want, x.binds(1, 0, 0));
    }

    private void justDue() {
        says(TERMS, "BINDS, of two: 1, if AWAY is not just DUE times itself");
        field(TWO, 22, 18, 2);
        bindsIs("eleven paces by 22", 0);
        x.set(0, 21);
        bindsIs("eleven paces by 21", 1);
        x.set(0, 23);
        bindsIs("eleven paces by 23", 1);
        x.set(0, 22);
        x.step(1, 2);
        bindsIs("twelve paces", 1);
        x.step(1, 6);
        x.step(1, 6);
        bindsIs("ten paces", 1);
        x.step(1, 3);
        bindsIs("eleven and one aslant", 1);
        field("s1200000;b1300304", 10, 18, 2);
        bindsIs("three and four are five", 0);
        field("s1200505;b1300505", 1, 18, 2);
        bindsIs("on one SPOT", 1);
        field("s1200000;b1303131", 88, 18, 2);
        bindsIs("31 and 31 by 88, one half more", 1);
        x.set(0, 87);
        bindsIs("31 and 31 by 87", 1);
        field("s1200000;b1300031", 62, 0, 2);
        bindsIs("from edge to edge", 0);
    }

    private void nearer() {
        says(TERMS, "else 2, if somebody else is nearer to either (AWAY less than CLEAR times itself)");
        field(TWO + ";n0000514", 22, 18, 2);
        bindsIs("a third just CLEAR of one", 0);
        x.set(1, 19);
        bindsIs("a third nearer by one half", 2);
        x.set(1, 18);
        x.step(2, 0);
        bindsIs("a third nearer by one pace", 2);
        field(TWO + ";n0001614", 22, 18, 2);
        bindsIs("a third just CLEAR of the other one", 0);
        x.set(1, 19);
        bindsIs("a third nearer to the other one", 2);
        field(TWO + ";n0000505", 22, 0, 2);
        bindsIs("a third on one SPOT, CLEAR 0", 0);
        x.set(1, 1);
        bindsIs("a third on one SPOT, CLEAR 1", 2);
        field("s1200000;b1300011;n0003131", 22, 90, 2);
        bindsIs("a third far off, CLEAR 90", 2);
        x.set(1, 74);
        bindsIs("a third 31 and 20 off, 5444 of 5476", 2);
        x.set(1, 73);
        bindsIs("a third 31 and 20 off, 5444 of 5329", 0);
        field("s1200505;b2301605;n0000505", 22, 18, 2);
        bindsIs("ahead of 3", 2);
        x.set(0, 20);
        bindsIs("behind 1", 1);
        field(NINE + ";b1300011", 22, 3, 2);
        due("binds(0, 9, 0), one of ten is nearer", 2, x.binds(0, 9, 0));
        x.set(1, 2);
        due("binds(0, 9, 0), none is", 3, x.binds(0, 9, 0));
    }

    private void clearOfTheTwo() {
        says(TERMS, "somebody else is nearer");
        field("s1200505;b1300705", 4, 90, 2);
        bindsIs("two alone, nearer to each other than CLEAR", 0);
        due("binds(0, 1, 1)", NONE, x.binds(0, 1, 1));
    }

    private void trade() {
        says(TERMS, "else 3, if not one sells and the other one buys one THING, at a PRICE of who buys that is no less");
        String[] kinds = {"s", "b", "n"};
        for (String one : kinds) {
            for (String another : kinds) {
                field(one + "1200505;" + another + "1201605", 22, 18, 2);
                boolean trades = (one + another).equals("sb") || (one + another).equals("bs");
                bindsIs(one + " and " + another, trades ? 0 : 3);
            }
        }
        for (int thing = 0; thing < 4; thing++) {
            for (int other = 0; other < 4; other++) {
                field("s" + thing + "200505;b" + other + "201605", 22, 18, 2);
                bindsIs("THINGS " + thing + ", " + other, thing == other ? 0 : 3);
            }
        }
        int[] prices = {0, 1, 19, 20, 21, 98, 99};
        for (int sold : prices) {
            for (int bought : prices) {
                field("s1" + two(sold) + "0505;b1" + two(bought) + "1605", 22, 18, 2);
                bindsIs("PRICES " + sold + ", " + bought, bought >= sold ? 0 : 3);
            }
        }
    }

    private void itBinds() {
        says(TERMS, "else 0: it binds.");
        field(TWO, 22, 18, 2);
        bindsIs("two alone", 0);
        field("b1301605;s1200505", 22, 18, 2);
        bindsIs("who buys is told first", 0);
    }

    private void worthOfOne() {
        says(TERMS, "Its WORTH: PRICE of who buys less that of who sells");
        int[][] prices = {{0, 0, 0}, {99, 99, 0}, {0, 99, 99}, {20, 31, 11}};
        for (int[] p : prices) {
            field("s1" + two(p[0]) + "0505;b1" + two(p[1]) + "1605", 22, 18, 2);
            due("binds(0, 1, 2) of " + p[0] + ", " + p[1], p[2], x.binds(0, 1, 2));
            due("binds(1, 0, 2) of " + p[0] + ", " + p[1], p[2], x.binds(1, 0, 2));
        }
    }

    private void struck() {
        says(TERMS, "STRUCK: half (cut) of both together.");
        int[][] prices = {{0, 0, 0}, {0, 1, 0}, {1, 1, 1}, {1, 2, 1}, {98, 99, 98}, {99, 99, 99}, {0, 99, 49}};
        for (int[] p : prices) {
            field("s1" + two(p[0]) + "0505;b1" + two(p[1]) + "1605", 22, 18, 2);
            due("binds(0, 1, 3) of " + p[0] + ", " + p[1], p[2], x.binds(0, 1, 3));
            due("binds(1, 0, 3) of " + p[0] + ", " + p[1], p[2], x.binds(1, 0, 3));
        }
    }

    private void binds() {
        says(11, "who is nearer, the least number (1; NONE)");
        field(TWO + ";n0003131", 22, 18, 2);
        due("binds(0, 1, 1), nobody", NONE, x.binds(0, 1, 1));
        field("n0001606;s1200505;n0000506;b1301605;n0000505", 22, 18, 2);
        due("binds(1, 3, 1), nearer to the second one", 0, x.binds(1, 3, 1));
        due("binds(3, 1, 1)", 0, x.binds(3, 1, 1));
        due("binds(1, 0, 1)", 2, x.binds(1, 0, 1));
        due("binds(1, 2, 1), nearer behind both", 4, x.binds(1, 2, 1));
        due("binds(0, 3, 1)", NONE, x.binds(0, 3, 1));
        x.set(0, 1);
        due("binds(1, 3, 1) though not just DUE away", 0, x.binds(1, 3, 1));
        field(TWO + ";n0000514", 22, 18, 2);
        due("binds(0, 1, 1), just CLEAR", NONE, x.binds(0, 1, 1));
        x.set(1, 19);
        due("binds(0, 1, 1), nearer by one half", 2, x.binds(0, 1, 1));

        says(11, "WORTH (2; NOT: it does not BIND), STRUCK (3; NOT likewise).");
        notWhere("1", TWO, 21);
        notWhere("2", TWO + ";n0000506", 22);
        notWhere("3", "s1300505;b1201605", 22);
        field(TWO, 22, 18, 2);
        due("binds(0, 1, 2)", 10, x.binds(0, 1, 2));
        due("binds(0, 1, 3)", 25, x.binds(0, 1, 3));
    }

    private void notWhere(String why, String people, int due) {
        field(people, due, 18, 2);
        due("binds(0, 1, 2) where BINDS is " + why, NOT, x.binds(0, 1, 2));
        due("binds(0, 1, 3) where BINDS is " + why, NOT, x.binds(0, 1, 3));
    }

    private void bindsRefuses() {
        says(11, "BAD: also one with oneself.");
        due("binds(0, 1, 0) of nobody", BAD, x.binds(0, 1, 0));
        field(TWO, 22, 18, 2);
        for (int what = 0; what < 4; what++) {
            due("binds(0, 0, " + what + ")", BAD, x.binds(0, 0, what));
            due("binds(1, 1, " + what + ")", BAD, x.binds(1, 1, what));
        }
        for (int p : outside(0, 1)) {
            due("binds(0, " + p + ", 0)", BAD, x.binds(0, p, 0));
            due("binds(" + p + ", 1, 0)", BAD, x.binds(p, 1, 0));
            due("binds(" + p + ", " + p + ", 1)", BAD, x.binds(p, p, 1));
        }
        for (int what : outside(0, 3)) {
            due("binds(0, 1, " + what + ")", BAD, x.binds(0, 1, what));
        }
        x.set(0, 20);
        due("binds(0, 1, 4), BAD ahead of NOT", BAD, x.binds(0, 1, 4));
        due("binds(0, 0, 2), BAD ahead of NOT", BAD, x.binds(0, 0, 2));
    }

    private void pairs() {
        says(12, "How many pairs BIND now.");
        due("pairs() of nobody", 0, x.pairs());
        field("s1200505", 22, 0, 0);
        due("pairs() of one", 0, x.pairs());
        field(TWO, 22, 18, 2);
        due("pairs() of two", 1, x.pairs());
        x.step(0, 6);
        due("pairs() behind a step", 0, x.pairs());
        field(fiveAndFive(), 22, 0, 0);
        due("pairs() of five and five", 25, x.pairs());
        x.step(9, 0);
        due("pairs() now", 20, x.pairs());
    }

    /** Five on one SPOT sell for 0 to 4, five on another one buy for 50 to 54: all bind by CLEAR 0. */
    private static String fiveAndFive() {
        return "s1000505;s1010505;s1020505;s1030505;s1040505;b1501605;b1511605;b1521605;b1531605;b1541605";
    }

    private void onceIs(int... with) {
        for (int p = 0; p < with.length; p++) {
            due("once(" + p + ")", with[p], x.once(p));
        }
    }

    private void mostPairs() {
        says(TERMS, "AT ONCE: the most pairs that BIND as all stand, nobody in two");
        due("once(NONE) of nobody", 0, x.once(NONE));
        field("s1200505", 22, 0, 0);
        due("once(NONE) of one", 0, x.once(NONE));
        field("s1200505;b1301605;s1202705", 22, 0, 2);
        due("pairs()", 2, x.pairs());
        due("once(NONE), one is not in two", 1, x.once(NONE));
        // a row of four, in which the dearest pair is the one in the middle: two pairs go ahead of it
        field("s1900000;b1901100;s1002200;b1002211", 22, 0, 2);
        due("pairs()", 3, x.pairs());
        due("once(NONE)", 2, x.once(NONE));
        due("worth(), less than that of one", 0, x.worth());
        onceIs(1, 0, 3, 2);
        field(fiveAndFive(), 22, 0, 0);
        due("once(NONE) of five and five", 5, x.once(NONE));
        x.step(5, 0);
        due("once(NONE) as all stand", 4, x.once(NONE));
        field(TWO + ";n0000506", 22, 18, 2);
        due("once(NONE) where one is in the way", 0, x.once(NONE));
    }

    private void mostWorth() {
        says(TERMS, "of like ones the most WORTH of all together");
        field("s1200505;b1301605;s1192705", 22, 0, 2);
        due("worth() of the better one", 11, x.worth());
        onceIs(NONE, 2, 1);
        field("s1190505;b1301605;s1202705", 22, 0, 2);
        due("worth() of the better one", 11, x.worth());
        onceIs(1, 0, NONE);
        // together 0 with 3 and 1 with 2 are worth as much as 0 with 2 and 1 with 3, unless a trade fails
        field("s1000505;s1400505;b1391605;b1411605", 22, 0, 0);
        due("once(NONE)", 2, x.once(NONE));
        due("worth()", 39 + 1, x.worth());
        onceIs(2, 3, 0, 1);
        field("s1000505;s1400505;b1411605;b1391605", 22, 0, 0);
        due("worth()", 39 + 1, x.worth());
        onceIs(3, 2, 1, 0);
        field("s1000505;s1000505;s1000505;b1991605;b1991605;b1991605", 22, 0, 0);
        due("worth() of three at 99", 297, x.worth());
    }

    private void leastRow() {
        says(TERMS, "of like ones the least row: of each, in order, with whom (NONE after all others).");
        field("s1200505;s1200505;s1200505;b1301605", 22, 0, 0);
        onceIs(3, NONE, NONE, 0);
        field("b1301605;s1200505;s1200505;s1200505", 22, 0, 0);
        onceIs(1, 0, NONE, NONE);
        field("s1200505;s1200505;b1301605;b1301605", 22, 0, 0);
        onceIs(2, 3, 0, 1);
        field("s1200505;b1301605;b1301605;s1200505", 22, 0, 0);
        onceIs(1, 0, 3, 2);
        field(fiveAndFive(), 22, 0, 0);
        onceIs(5, 6, 7, 8, 9, 0, 1, 2, 3, 4);
        // who is told first is better left alone when that is worth more
        field("s1210505;s1200505;b1301605", 22, 0, 0);
        onceIs(NONE, 2, 1);
        field("n1200505;s1200505;b1301605;s1200505", 22, 0, 0);
        onceIs(NONE, 2, 1, NONE);
    }

    private void once() {
        says(13, "AT ONCE: how many (p = NONE), with whom one (NONE). BAD.");
        due("once(NONE) of nobody", 0, x.once(NONE));
        due("once(0) of nobody", BAD, x.once(0));
        field(TWO + ";n0003131", 22, 18, 2);
        due("once(-1)", 1, x.once(-1));
        onceIs(1, 0, NONE);
        due("once(-2)", BAD, x.once(-2));
        due("once(3)", BAD, x.once(3));
        due("once(the least)", BAD, x.once(LEAST));
        due("once(the greatest)", BAD, x.once(GREATEST));
        due("once(65536)", BAD, x.once(65536));
    }

    private void worth() {
        says(14, "All WORTH of AT ONCE.");
        due("worth() of nobody", 0, x.worth());
        field("s1200505;b1201605", 22, 18, 2);
        due("worth() of a pair at one PRICE", 0, x.worth());
        due("and it is a pair", 1, x.once(NONE));
        field("s1000505;b1991605", 22, 18, 2);
        due("worth() of 0 and 99", 99, x.worth());
        field(fiveAndFive(), 22, 0, 0);
        due("worth() of five", 250, x.worth());
        x.step(0, 0);
        due("worth() behind a step", 53 + 52 + 51 + 54 - (1 + 2 + 3 + 4), x.worth());
    }
}
