/** THE FIELD, SETTINGS and STEPS: Terms, part 1, and the promises 1 and 5 to 10. */
final class FieldSentences extends Ground {
    private static final int[] EAST = {0, 1, 1, 1, 0, -1, -1, -1};
    private static final int[] SOUTH = {-1, -1, 0, 1, 1, 1, 0, -1};
    private static final int[][] SETTINGS = {{1, 90, 22}, {0, 90, 18}, {0, 40, 2}};

    FieldSentences(Book book) {
        super(book);
    }

    @Override
    void run() {
        calls();
        aNewObject();
        spots();
        away();
        settings();
        set();
        person();
        directions();
        staysOnTheField();
        near();
        step();
        read();
        readRefuses();
        home();
    }

    private void calls() {
        says(Book.START, "An object is used for at most 512 calls after it has been made");
        String ten = "s1000505;s1010505;s1020505;s1030505;s1040505;b1501605;b1511605;b1521605;b1531605;b1541605";
        field(ten, 22, 0, 0);
        long first = x.digest();
        for (int call = ten.length() + 5; call < 511; call++) {
            x.once(call % 10);
        }
        due("the 512th call, digest()", first, x.digest());
    }

    private void aNewObject() {
        says(1, "Nobody, no POSTS, an empty FAIR; all SHEETS are LOST.");
        for (int what = 0; what <= 4; what++) {
            due("count(" + what + ")", 0, x.count(what));
        }
        due("person(0, 0)", BAD, x.person(0, 0));
        due("once(NONE)", 0, x.once(NONE));
        due("judged(0)", NONE, x.judged(0));
        due("both(0, 1, NONE)", BAD, x.both(0, 1, NONE));
        for (int s = 0; s < 4; s++) {
            due("lose(" + s + ")", NULL, x.lose(s));
        }
        due("gone()", 0, x.gone());
        due("wipe(0)", 0, x.wipe(0));
        due("wipe(1)", 0, x.wipe(1));
        ElevenPaces used = x;
        used.post(0);
        used.set(0, 1);
        due("post() of one object is not another one's", 0, new ElevenPaces().count(4));
        due("set() of one object is not another one's", 22, new ElevenPaces().count(5));
    }

    private void spots() {
        says(TERMS, "32 times Y, and X (0 to 31 each).");
        tell(0, "n0000000;n0003100;n0000031;n0003131;n0000201");
        int[] want = {0, 31, 992, 1023, 34};
        x.sheet(0, INTS, 5);
        x.write(0);
        for (int p = 0; p < want.length; p++) {
            due("ends(" + p + ")", want[p], x.ends(p));
        }
        rowIs(0, INTS, want);
        due("post(1023)", 0, x.post(1023));
        due("post(1024)", BAD, x.post(1024));
    }

    private void away() {
        says(TERMS, "AWAY: 4 times (the difference of X times itself, and that of Y times itself).");
        tell(0, "n0000000;n0003131;n0000000;n0000100;n0000001;n0003100");
        due("away(0, 1), the most", 4 * 2 * 31 * 31, x.away(0, 1));
        due("away(1, 0)", 4 * 2 * 31 * 31, x.away(1, 0));
        due("away(0, 2), on one SPOT", 0, x.away(0, 2));
        due("away(0, 3), one to the east", 4, x.away(0, 3));
        due("away(4, 0), one to the south", 4, x.away(4, 0));
        due("away(4, 5)", 4 * (31 * 31 + 1), x.away(4, 5));

        says(10, "AWAY of two. BAD.");
        tell(0, TWO);
        due("away(0, 1)", 484, x.away(0, 1));
        due("away(1, 1), which is not told to be BAD", 0, x.away(1, 1));
        for (int p : outside(0, 1)) {
            due("away(0, " + p + ")", BAD, x.away(0, p));
            due("away(" + p + ", 1)", BAD, x.away(p, 1));
        }
        fresh();
        due("away(0, 0) of nobody", BAD, x.away(0, 0));
    }

    private void settings() {
        says(TERMS, "SETTINGS (HALVES): DUE (1 to 90; 22 at first), CLEAR (0 to 90; 18), NEAR (0 to 40; 2).");
        for (int what = 0; what < 3; what++) {
            int least = SETTINGS[what][0];
            int most = SETTINGS[what][1];
            due("count() of " + what + " at first", SETTINGS[what][2], x.count(5 + what));
            for (int v : outside(least, most)) {
                due("set(" + what + ", " + v + ")", BAD, x.set(what, v));
            }
            due("set(" + what + ", the least)", SETTINGS[what][2], x.set(what, least));
            due("set(" + what + ", the most)", least, x.set(what, most));
            due("count() of the most", most, x.count(5 + what));
        }
        field("s1200000;b1303131", 90, 90, 40);
        due("binds() by DUE 90", 1, x.binds(0, 1, 0));
        x.set(0, 1);
        due("binds() by DUE 1", 1, x.binds(0, 1, 0));
    }

    private void set() {
        says(5, "DUE (what = 0), CLEAR (1), NEAR (2): what it was. BAD.");
        due("set(0, 30)", 22, x.set(0, 30));
        due("set(1, 31)", 18, x.set(1, 31));
        due("set(2, 32)", 2, x.set(2, 32));
        due("set(0, 33)", 30, x.set(0, 33));
        due("set(1, 33)", 31, x.set(1, 33));
        due("set(2, 33)", 32, x.set(2, 33));
        due("set(0, 33) as it is", 33, x.set(0, 33));
        for (int what : outside(0, 2)) {
            due("set(" + what + ", 5)", BAD, x.set(what, 5));
        }
        due("set(0, 0)", BAD, x.set(0, 0));
        due("it is as it was", 33, x.set(0, 22));
    }

    private void person() {
        says(6, "Of one: 0 sells, 1 buys, 2 neither (what = 0), THING (1), PRICE (2), X (3), Y (4) now. BAD.");
        tell(0, "s0000000;b3993131;n1093000");
        int[][] want = {{0, 0, 0, 0, 0}, {1, 3, 99, 31, 31}, {2, 1, 9, 30, 0}};
        for (int p = 0; p < 3; p++) {
            for (int what = 0; what < 5; what++) {
                due("person(" + p + ", " + what + ")", want[p][what], x.person(p, what));
            }
        }
        x.step(2, 3);
        due("person(2, 3) now", 31, x.person(2, 3));
        due("person(2, 4) now", 1, x.person(2, 4));
        for (int p : outside(0, 2)) {
            due("person(" + p + ", 0)", BAD, x.person(p, 0));
        }
        for (int what : outside(0, 4)) {
            due("person(0, " + what + ")", BAD, x.person(0, what));
        }
    }

    private void directions() {
        says(TERMS, "(0 north: Y 1 less, then clockwise by eighths: 1 north-east, 2 east: X 1 more, .. 7 north-west)");
        for (int d = 0; d < 8; d++) {
            fresh();
            tell(0, "n0001512");
            x.step(0, d);
            due("X behind step " + d, 15 + EAST[d], x.person(0, 3));
            due("Y behind step " + d, 12 + SOUTH[d], x.person(0, 4));
        }
    }

    private void staysOnTheField() {
        says(TERMS, "LAWFUL, if one stays on THE FIELD");
        for (int border = 0; border < 32; border++) {
            stepsFrom(border, 0);
            stepsFrom(border, 31);
            stepsFrom(0, border);
            stepsFrom(31, border);
        }
    }

    private void stepsFrom(int column, int row) {
        fresh();
        tell(0, "n000" + two(column) + two(row));
        for (int d = 0; d < 8; d++) {
            int toColumn = column + EAST[d];
            int toRow = row + SOUTH[d];
            boolean stays = toColumn >= 0 && toColumn <= 31 && toRow >= 0 && toRow <= 31;
            due("step " + d + " from " + column + ", " + row, stays ? 1 : NOT, x.step(0, d));
            due("then it is on", stays ? at(toColumn, toRow) : at(column, row), spot(0));
            x.home();
        }
    }

    private void near() {
        says(TERMS, "and behind it AWAY to each other one is at least NEAR times itself.");
        field("n0001010;n0001410", 22, 18, 6);
        due("step to just NEAR", 1, x.step(0, 2));
        due("step to nearer than NEAR", NOT, x.step(0, 2));
        x.set(2, 5);
        due("step to 2 paces, NEAR 5", NOT, x.step(0, 2));
        x.set(2, 4);
        due("step to 2 paces, NEAR 4", 1, x.step(0, 2));
        x.set(2, 40);
        due("from too near to still too near", NOT, x.step(0, 6));
        x.set(2, 0);
        x.step(0, 2);
        due("step upon another one, NEAR 0", 1, x.step(0, 2));
        due("on one SPOT", 0, x.away(0, 1));
        x.set(2, 1);
        due("out of one SPOT, NEAR 1", 1, x.step(0, 0));
        due("back, NEAR 1", NOT, x.step(0, 4));
        field("n0000010;n0002110", 22, 18, 40);
        due("step to 20 paces, NEAR 40", 1, x.step(0, 2));
        due("step to 19 paces, NEAR 40", NOT, x.step(0, 2));
        field("n0001010;n0001210;n0000810;n0001012", 22, 18, 3);
        due("too near to the first other one", NOT, x.step(0, 2));
        due("too near to one in the middle", NOT, x.step(0, 6));
        due("too near to the last one", NOT, x.step(0, 4));
        due("near to none", 1, x.step(0, 0));
        field("n0001010;n0001210", 22, 18, 3);
        due("too near to one who is told ahead", NOT, x.step(1, 6));
        field("n0001010;n0001310", 22, 18, 4);
        due("aslant, 4 times 5 is at least 16", 1, x.step(0, 1));
        field("n0001010;n0001310", 22, 18, 5);
        due("aslant, 4 times 5 is not 25", NOT, x.step(0, 1));
    }

    private void step() {
        says(7, "A STEP of one: 1.");
        tell(0, "n0001010;n0002020");
        due("step(1, 0)", 1, x.step(1, 0));
        due("that one stands", at(20, 19), spot(1));
        due("and the other one", at(10, 10), spot(0));

        says(7, "BAD; NOT: it is not LAWFUL.");
        due("step(0, 0) of nobody", BAD, x.step(0, 0));
        tell(0, "n0000000;n0000100");
        for (int d : outside(0, 7)) {
            due("step(0, " + d + ")", BAD, x.step(0, d));
        }
        for (int p : outside(0, 1)) {
            due("step(" + p + ", 4)", BAD, x.step(p, 4));
        }
        due("step off the field", NOT, x.step(0, 0));
        due("step upon another one", NOT, x.step(0, 2));
        due("stands as before", 0, spot(0));
        due("a FINDING it is not", 0, x.count(8));
    }

    private void read() {
        says(8, "its items are DIRECTIONS, item by item, as long as each may be and is LAWFUL: how many.");
        for (int form = BYTES; form <= INTS; form++) {
            fresh();
            tell(0, "n0000000;n0000300");
            filled(0, form, 4, 4, 2, 8, 2);
            due("read() to an 8", 3, x.read(0, 0));
            due("stands", at(1, 2), spot(0));
            filled(0, form, 0, 0, 0, 4);
            due("read() off the field", 2, x.read(0, 0));
            due("stands", at(1, 0), spot(0));
            filled(0, form, 2, 2, 4);
            due("read() upon another one", 1, x.read(0, 0));
            due("stands", at(2, 0), spot(0));
            filled(0, form, 4, -1, 4);
            due("read() to a -1", 1, x.read(0, 0));
            filled(0, form);
            due("read() of no items", 0, x.read(0, 0));
            due("the other one stands", 3, spot(1));
        }
        int[] most = new int[60];
        for (int i = 0; i < 60; i++) {
            most[i] = i < 30 ? 4 : 0;
        }
        filled(1, BYTES, most);
        x.home();
        due("read() of 60", 60, x.read(1, 0));
        due("stands", 0, spot(0));
    }

    private void readRefuses() {
        says(8, "BAD; NULL.");
        tell(0, "n0000505");
        for (int s : outside(0, 3)) {
            due("read(" + s + ", 0)", BAD, x.read(s, 0));
        }
        for (int p : outside(0, 0)) {
            due("read(0, " + p + "), LOST too", BAD, x.read(0, p));
        }
        due("no FINDING yet", 0, x.count(8));
        due("read(3, 0), LOST", NULL, x.read(3, 0));
        due("the FINDING", 1, x.count(8));
        x.wipe(0);
        due("read(3, 0) of nobody", BAD, x.read(3, 0));
    }

    private void home() {
        says(9, "All stand on their SPOTS of the text again: how many had stood elsewhere.");
        due("home() of nobody", 0, x.home());
        tell(0, NINE + ";n0003131");
        due("home() of all at home", 0, x.home());
        for (int p = 0; p < 9; p++) {
            x.step(p, 4);
        }
        x.step(9, 0);
        due("home() of ten", 10, x.home());
        due("stands", 0, spot(0));
        due("stands", 1023, spot(9));
        due("home() again", 0, x.home());
        x.step(0, 4);
        x.step(0, 0);
        due("home() of one who came back", 0, x.home());
    }
}
