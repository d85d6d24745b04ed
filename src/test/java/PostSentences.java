/** POSTS, BROKER, OTHER: Terms, part 4, and the promises 20 to 26. */
final class PostSentences extends Ground {
    PostSentences(Book book) {
        super(book);
    }

    @Override
    void run() {
        eightAtMost();
        pairs();
        more();
        both();
        post();
        gone();
        sees();
        moreRefuses();
        bothRefuses();
        brokerClear();
        brokerReaches();
        brokerThings();
        brokerMost();
        broker();
        other();
        otherRefuses();
    }

    private void posts(int... spots) {
        x.gone();
        for (int s : spots) {
            x.post(s);
        }
    }

    private void eightAtMost() {
        says(TERMS, "POSTS, 8 at most, stand on SPOTS (perhaps two on one).");
        for (int i = 0; i < 8; i++) {
            due("post(1023)", i, x.post(1023));
        }
        due("count(4)", 8, x.count(4));
        due("post(0), a ninth", FULL, x.post(0));
        due("count(4)", 8, x.count(4));
        due("sees() of eight on one", 0, x.sees());
        due("more(1) of eight on one", 8, x.more(1));
        due("both(0, 7, NONE)", 2, x.both(0, 7, NONE));
    }

    private void pairs() {
        says(TERMS, "PAIRS: of how many two AWAY is DUE times itself.");
        due("sees() of none", 0, x.sees());
        posts(0);
        due("sees() of one", 0, x.sees());
        posts(at(5, 5), at(16, 5));
        due("sees() of two, each told once", 1, x.sees());
        x.set(0, 21);
        due("sees() by 21", 0, x.sees());
        x.set(0, 23);
        due("sees() by 23", 0, x.sees());
        x.set(0, 22);
        posts(0, 0, 0, 0, 11, 11, 11, 11);
        due("sees() of four and four", 16, x.sees());
        posts(at(5, 5), at(17, 5));
        due("sees() of twelve paces", 0, x.sees());
        posts(31, 32);
        x.set(0, 2);
        due("sees() not over the edge of the field", 0, x.sees());
        x.set(0, 62);
        due("sees() from edge to edge, one row on", 0, x.sees());
        posts(31, 0, 992);
        due("sees() from edge to edge", 2, x.sees());
    }

    private void more() {
        says(TERMS, "MORE: the SPOT on which one more would have that to the most POSTS, of like ones the least; to how many.");
        due("more(0) of no POSTS", 0, x.more(0));
        due("more(1) of no POSTS", 0, x.more(1));
        moreIs("the corner", at(11, 0), 1, 0);
        moreIs("the last SPOT", at(31, 20), 1, 1023);
        moreIs("of four the least", at(15, 4), 1, at(15, 15));
        moreIs("to both", at(16, 5), 2, at(5, 5), at(16, 16));
        moreIs("to two on one", at(16, 20), 2, at(5, 5), at(16, 31), at(16, 31));
        moreIs("the first SPOT", 0, 2, at(11, 0), at(0, 11));
        x.set(0, 1);
        moreIs("by 1 to none, the least", 0, 0, at(5, 5));
        x.set(0, 90);
        moreIs("by 90 to none, the least", 0, 0, at(5, 5));
        x.set(0, 62);
        moreIs("from edge to edge", 31, 2, 0, 1023);
        x.set(0, 2);
        moreIs("beside the edge", 30, 1, 31);
        moreIs("not over the edge, where 32 follows 31", 1, 1, 31, 33);
        moreIs("beside the first SPOT", 1, 1, 0);
        x.set(0, 10);
        // five paces from 0, 32, which is no SPOT
        moreIs("not beyond the field", at(3, 23), 2, at(0, 27), at(3, 28), at(4, 29));
        x.set(0, 2);
        moreIs("upon another POST", at(5, 5), 2, at(4, 5), at(6, 5), at(5, 5));
    }

    private void moreIs(String of, int spot, int many, int... spots) {
        posts(spots);
        due("more(0), " + of, spot, x.more(0));
        due("more(1), " + of, many, x.more(1));
    }

    private void both() {
        says(TERMS, "BOTH: of two POSTS the SPOTS that have it to both: how many, the i-th (from the least on).");
        posts(at(5, 5), at(16, 16), at(31, 31), at(5, 5), at(27, 5));
        bothIs(0, 1, at(16, 5), at(5, 16));
        bothIs(1, 0, at(16, 5), at(5, 16));
        bothIs(0, 2);
        bothIs(0, 3, at(16, 5), at(5, 16));
        bothIs(0, 4, at(16, 5));
        posts(0, 0);
        bothIs(0, 1, 11, at(0, 11));
        posts(1023, 1023);
        bothIs(0, 1, at(31, 20), at(20, 31));
        posts(at(11, 0), at(0, 11));
        bothIs(0, 1, 0, at(11, 11));
        posts(at(20, 31), at(31, 20));
        bothIs(0, 1, at(20, 20), 1023);
        x.set(0, 2);
        posts(0, 0, at(0, 31), at(0, 31));
        bothIs(0, 1, 1, at(0, 1));
        bothIs(2, 3, at(0, 30), at(1, 31));
        x.set(0, 10);
        posts(at(10, 10), at(10, 10));
        bothIs(0, 1, at(10, 5), at(7, 6), at(13, 6), at(6, 7), at(14, 7), at(5, 10), at(15, 10),
            at(6, 13), at(14, 13), at(7, 14), at(13, 14), at(10, 15));
        x.set(0, 1);
        bothIs(0, 1);
    }

    private void bothIs(int a, int b, int... spots) {
        due("both(" + a + ", " + b + ", NONE)", spots.length, x.both(a, b, NONE));
        for (int i = 0; i < spots.length; i++) {
            due("both(" + a + ", " + b + ", " + i + ")", spots[i], x.both(a, b, i));
        }
        due("both(" + a + ", " + b + ", " + spots.length + ")", NONE, x.both(a, b, spots.length));
    }

    private void post() {
        says(20, "A POST more: its number. BAD; FULL.");
        for (int spot : outside(0, 1023)) {
            due("post(" + spot + ")", BAD, x.post(spot));
        }
        due("post(0)", 0, x.post(0));
        due("post(1023)", 1, x.post(1023));
        for (int i = 2; i < 8; i++) {
            due("post(5)", i, x.post(5));
        }
        due("post(5), FULL", FULL, x.post(5));
        for (int spot : outside(0, 1023)) {
            due("post(" + spot + "), BAD ahead of FULL", BAD, x.post(spot));
        }
    }

    private void gone() {
        says(21, "All POSTS are gone: how many there were.");
        due("gone() of none", 0, x.gone());
        posts(5);
        due("gone() of one", 1, x.gone());
        posts(1, 2, 3, 4, 5, 6, 7, 8);
        due("gone() of eight", 8, x.gone());
        due("gone() again", 0, x.gone());
        due("count(4)", 0, x.count(4));
        due("both(0, 1, NONE)", BAD, x.both(0, 1, NONE));
        due("more(1)", 0, x.more(1));
        due("post(5) behind it", 0, x.post(5));
    }

    private void sees() {
        says(22, "PAIRS.");
        due("sees() of none", 0, x.sees());
        posts(0, 11, at(0, 11), at(11, 11));
        due("sees() of a square", 4, x.sees());
        tell(0, TWO);
        due("sees() looks at POSTS alone", 4, x.sees());
    }

    private void moreRefuses() {
        says(23, "MORE: the SPOT (what = 0), to how many (1). BAD.");
        posts(11);
        due("more(0)", 0, x.more(0));
        due("more(1)", 1, x.more(1));
        for (int what : outside(0, 1)) {
            due("more(" + what + ")", BAD, x.more(what));
        }
        due("count(4): it sets none", 1, x.count(4));
        posts(0, 0, 0, 0, 0, 0, 0, 0);
        due("more(0) with eight there", 11, x.more(0));
        due("more(1) with eight there", 8, x.more(1));
    }

    private void bothRefuses() {
        says(24, "BOTH: how many (i = NONE), the i-th SPOT; NONE beyond. BAD: also one with itself.");
        due("both(0, 1, NONE) of none", BAD, x.both(0, 1, NONE));
        posts(0);
        due("both(0, 1, NONE) of one", BAD, x.both(0, 1, NONE));
        posts(0, 0);
        due("both(0, 1, NONE)", 2, x.both(0, 1, NONE));
        due("both(0, 1, 0)", 11, x.both(0, 1, 0));
        due("both(0, 1, 1)", at(0, 11), x.both(0, 1, 1));
        due("both(0, 1, 2), beyond", NONE, x.both(0, 1, 2));
        due("both(0, 1, the greatest), beyond", NONE, x.both(0, 1, GREATEST));
        due("both(0, 1, -2)", BAD, x.both(0, 1, -2));
        due("both(0, 1, the least)", BAD, x.both(0, 1, LEAST));
        due("both(0, 0, NONE)", BAD, x.both(0, 0, NONE));
        due("both(1, 1, 0)", BAD, x.both(1, 1, 0));
        for (int a : outside(0, 1)) {
            due("both(" + a + ", 0, NONE)", BAD, x.both(a, 0, NONE));
            due("both(1, " + a + ", 0)", BAD, x.both(1, a, 0));
        }
    }

    private void brokerIs(String of, int spot, int profit) {
        due("broker(0), " + of, spot, x.broker(0));
        due("broker(1), " + of, profit, x.broker(1));
    }

    private void brokerClear() {
        says(TERMS, "BROKER: on a SPOT (of like ones the least) where AWAY to each of PEOPLE is at least CLEAR times itself");
        field("s1200505;b1301616", 22, 18, 2);
        brokerIs("of two SPOTS the least", at(16, 5), 10);
        field("s1200505;b1302705;n0001614", 22, 18, 2);
        brokerIs("one just CLEAR", at(16, 5), 10);
        x.set(1, 19);
        brokerIs("one nearer by one half", NONE, 0);
        field("s1200505;b1301616;n0001605", 22, 18, 2);
        brokerIs("the least is taken", at(5, 16), 10);
        field("s1200505;b1302705", 22, 22, 2);
        brokerIs("CLEAR as DUE", at(16, 5), 10);
        x.set(1, 23);
        brokerIs("CLEAR above DUE", NONE, 0);
        field("s1200505;b1302705;n0001605", 22, 0, 40);
        brokerIs("upon another one, CLEAR 0, whatever NEAR is", at(16, 5), 10);
        x.set(1, 1);
        brokerIs("upon another one, CLEAR 1", NONE, 0);
        field("s1201100;b1300011", 22, 18, 2);
        brokerIs("the first SPOT", 0, 10);
        field("s1202031;b1303120;n0002020", 22, 18, 2);
        brokerIs("the last SPOT", 1023, 10);
        // -1, 0 would be five paces from both, too
        field("s1200400;b1300303", 10, 0, 2);
        brokerIs("not ahead of the field", at(8, 3), 10);
        // 0, 32 would be the only one left
        field("s1200027;b1300328;n0000323", 10, 2, 2);
        brokerIs("not behind the field", NONE, 0);
        // 4, 32 would be five paces from both, but is no SPOT
        field("s1200029;b1300829", 10, 0, 2);
        brokerIs("not beyond the field", at(4, 26), 10);
        x.set(1, 2);
        tell(0, "s1200029;b1300829;n0000426");
        brokerIs("not beyond the field", NONE, 0);
    }

    private void brokerReaches() {
        says(TERMS, "one that BINDS with who is just DUE away from there (nobody else being nearer to that one than CLEAR;"
            + " the broker is not on THE FIELD yet)");
        field("s1200505;b1302705", 22, 18, 2);
        brokerIs("both just DUE away", at(16, 5), 10);
        x.step(1, 2);
        brokerIs("one too far", NONE, 0);
        field("s1200505;b1302705;n0000514", 22, 18, 2);
        brokerIs("a third just CLEAR of one", at(16, 5), 10);
        x.step(2, 0);
        brokerIs("a third nearer to who sells", NONE, 0);
        field("s1200505;b1302705;n0002713", 22, 18, 2);
        brokerIs("a third nearer to who buys", NONE, 0);
        field("s1200505;b1300606", 10, 2, 2);
        brokerIs("the two are CLEAR of each other", at(9, 2), 10);
        x.set(1, 3);
        brokerIs("the two are nearer to each other", NONE, 0);
        field("s1201100;b1301100", 22, 0, 2);
        brokerIs("both on one SPOT, CLEAR 0", 0, 10);
        x.set(1, 1);
        brokerIs("both on one SPOT, CLEAR 1", NONE, 0);
        field("s1200505;b1302705", 22, 18, 2);
        due("pairs(), the broker is not there", 0, x.pairs());
        due("count(0)", 2, x.count(0));
    }

    private void brokerThings() {
        says(TERMS, "for each THING the greatest PRICE of who so buys less the least of who so sells, if above 0 (and both are there)");
        field("s1300505;b1302705", 22, 18, 2);
        brokerIs("0 is not above 0", NONE, 0);
        field("s1290505;b1302705", 22, 18, 2);
        brokerIs("1 is", at(16, 5), 1);
        field("s1310505;b1302705", 22, 18, 2);
        brokerIs("a loss is not", NONE, 0);
        field("s1000505;b1992705", 22, 18, 2);
        brokerIs("0 and 99", at(16, 5), 99);
        field("s1000505;b1002705", 22, 18, 2);
        brokerIs("0 and 0", NONE, 0);
        field("b1990505;b1992705", 22, 18, 2);
        brokerIs("nobody sells", NONE, 0);
        field("s1000505;s1002705", 22, 18, 2);
        brokerIs("nobody buys", NONE, 0);
        field("s1000505;b2992705", 22, 18, 2);
        brokerIs("not one THING", NONE, 0);
        field("s1000505;n1992705", 22, 18, 2);
        brokerIs("one does neither", NONE, 0);
        // about 15, 15, ten paces off
        field("s1250515;s1202515;b1401505;b1501525", 20, 10, 2);
        brokerIs("the greatest less the least, told last", at(15, 15), 30);
        field("s1200515;s1252515;b1501525;b1401505", 20, 10, 2);
        brokerIs("the greatest less the least, told first", at(15, 15), 30);
    }

    private void brokerMost() {
        says(TERMS, "all THINGS together are most; that SPOT; what it is");
        String west = "s0100810;b0150820;s1100315;b1%d1315;s2102410;b2202420";
        field(String.format(west, 16), 10, 0, 2);
        brokerIs("5 and 6 are more than 10", at(8, 15), 11);
        field(String.format(west, 14), 10, 0, 2);
        brokerIs("5 and 4 are less than 10", at(24, 15), 10);
        field(String.format(west, 15), 10, 0, 2);
        brokerIs("5 and 5 are like 10, the least", at(8, 15), 10);
        field("s0991510;b0001811;s1201912;b1302015;s2001918;b2991819;s3401520;b3411219", 10, 2, 2);
        brokerIs("a loss of one THING takes nothing from the others", at(15, 15), 10 + 99 + 1);
        field("s0001510;b0991811;s1001912;b1992015;s2001918;b2991819;s3001520;b3991219", 10, 2, 2);
        brokerIs("four THINGS at 99", at(15, 15), 396);
    }

    private void broker() {
        says(TERMS, "NONE: nowhere anything (0).");
        brokerIs("nobody", NONE, 0);
        field("s1000505", 22, 18, 2);
        brokerIs("one alone", NONE, 0);

        says(25, "BROKER: the SPOT (what = 0; NONE), what it is (1). BAD.");
        due("broker(0) of nobody", NONE, x.broker(0));
        due("broker(1) of nobody", 0, x.broker(1));
        field("s1200505;b1302705", 22, 18, 2);
        due("broker(0)", at(16, 5), x.broker(0));
        due("broker(1)", 10, x.broker(1));
        for (int what : outside(0, 1)) {
            due("broker(" + what + ")", BAD, x.broker(what));
        }
        x.step(1, 2);
        due("broker(0) as all stand", NONE, x.broker(0));
        due("broker(1) as all stand", 0, x.broker(1));
    }

    private void otherIs(int from, int to, int due, int many) {
        due("other(" + from + ", " + to + ", 0)", due, x.other(from, to, 0));
        due("other(" + from + ", " + to + ", 1)", many, x.other(from, to, 1));
    }

    private void other() {
        says(TERMS, "OTHER: by which DUE, from one to another (1 to 90; the lesser first), most pairs of PEOPLE BIND,"
            + " of like ones the least; how many.");
        otherIs(1, 90, 1, 0);
        field("s1200000;b1300001;s1200031;b1300030", 22, 0, 2);
        otherIs(1, 90, 2, 2);
        otherIs(2, 90, 2, 2);
        otherIs(1, 2, 2, 2);
        otherIs(3, 90, 60, 2);
        otherIs(3, 59, 3, 0);
        otherIs(61, 90, 61, 0);
        otherIs(60, 60, 60, 2);
        otherIs(90, 90, 90, 0);
        otherIs(1, 1, 1, 0);
        x.step(0, 2);
        otherIs(1, 90, 2, 1);
        due("count(5), DUE stays", 22, x.count(5));
        field("s1200505;b1300705;b1300510;b1301005", 22, 0, 2);
        otherIs(1, 90, 10, 2);
        otherIs(1, 9, 4, 1);
        x.set(1, 4);
        otherIs(1, 90, 10, 2);
        x.set(1, 5);
        otherIs(1, 90, 4, 1);
        x.set(1, 6);
        otherIs(1, 90, 4, 1);
        x.set(1, 7);
        otherIs(1, 90, 1, 0);
    }

    private void otherRefuses() {
        says(26, "OTHER: DUE (what = 0), how many (1). BAD.");
        field(TWO, 5, 18, 2);
        otherIs(1, 90, 22, 1);
        otherIs(22, 22, 22, 1);
        for (int v : outside(1, 90)) {
            due("other(" + v + ", 22, 0)", BAD, x.other(v, 22, 0));
            due("other(22, " + v + ", 0)", BAD, x.other(22, v, 0));
            due("other(" + v + ", " + v + ", 1)", BAD, x.other(v, v, 1));
        }
        due("other(23, 22, 0), the greater first", BAD, x.other(23, 22, 0));
        due("other(90, 1, 1), the greater first", BAD, x.other(90, 1, 1));
        for (int what : outside(0, 1)) {
            due("other(1, 90, " + what + ")", BAD, x.other(1, 90, what));
        }
    }
}
