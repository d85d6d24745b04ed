import java.math.BigInteger;

/** SHEETS, count() and digest(): Terms, part 1, and the promises 27 to 34. */
final class SheetSentences extends Ground {
    SheetSentences(Book book) {
        super(book);
    }

    @Override
    void run() {
        sheets();
        findings();
        sheet();
        sheetRefuses();
        lose();
        put();
        lowestBits();
        putRefuses();
        get();
        copy();
        copyInOne();
        copyRefuses();
        copyIndex();
        write();
        writeRefuses();
        count();
        latestFinding();
        digest();
        digestOfTwo();
        digestWraps();
    }

    private void sheets() {
        says(TERMS, "SHEETS 0 .. 3 are LOST (at first) or a row of a FORM: 0 bytes, 1 shorts, 2 ints, of 0 to 60 items (0 at first).");
        for (int s = 0; s < 4; s++) {
            due("lose(" + s + ") at first", NULL, x.lose(s));
        }
        due("lose(4)", BAD, x.lose(4));
        for (int form = BYTES; form <= INTS; form++) {
            due("sheet() of no items", 0, x.sheet(form, form, 0));
            due("get() of no items", Integer.MIN_VALUE, x.get(form, form, 0));
            due("sheet() of sixty", 60, x.sheet(form, form, 60));
            for (int i = 0; i < 60; i++) {
                due("item " + i + " at first", 0, x.get(form, form, i));
            }
        }
    }

    private void findings() {
        says(TERMS, "FINDINGS (answers -10 less the number; they change nothing but count() 8)");
        due("NULL, number 1", -11, x.lose(0));
        due("count(8)", 1, x.count(8));
        filled(0, BYTES, 7, 8);
        filled(1, SHORTS, 9);
        due("INDEX, number 2", -12, x.put(0, BYTES, 2, 5));
        due("count(8)", 2, x.count(8));
        due("CAST, number 3", -13, x.put(0, SHORTS, 0, 5));
        due("count(8)", 3, x.count(8));
        due("STORE, number 4", -14, x.copy(0, 0, 1, 0, 1));
        due("count(8)", 4, x.count(8));
        due("SIZE, number 5", -15, x.sheet(0, BYTES, -1));
        due("count(8)", 5, x.count(8));
        rowIs(0, BYTES, 7, 8);
        rowIs(1, SHORTS, 9);
        due("count(8) behind calls that are well", 5, x.count(8));
        due("lose(0): as many as before", 2, x.lose(0));

        says(TERMS, "1 NULL: the SHEET is LOST; 2 INDEX: there is no such item; 3 CAST: it has another FORM; 4 STORE: unlike FORMS; 5 SIZE: below 0.");
        due("write() of one LOST", NULL, x.write(0));
        x.sheet(0, INTS, 60);
        due("put() of item 60 of 60", INDEX, x.put(0, INTS, 60, 1));
        due("put() of item 59 of 60", 1, x.put(0, INTS, 59, 1));
        due("put() as another FORM", CAST, x.put(0, BYTES, 59, 1));
        x.sheet(1, SHORTS, 60);
        due("copy() of unlike FORMS", STORE, x.copy(0, 0, 1, 0, 1));
        due("sheet() of -1", SIZE, x.sheet(2, INTS, -1));
        due("sheet() of 0", 0, x.sheet(2, INTS, 0));
    }

    private void sheet() {
        says(27, "A SHEET is a new row of a FORM with n items: n.");
        due("sheet(0, 0, 60)", 60, x.sheet(0, BYTES, 60));
        due("sheet(3, 2, 0)", 0, x.sheet(3, INTS, 0));
        x.put(0, BYTES, 59, 7);
        due("sheet(0, 0, 60) anew", 60, x.sheet(0, BYTES, 60));
        due("item 59 is new", 0, x.get(0, BYTES, 59));
        x.put(0, BYTES, 1, 7);
        due("sheet(0, 1, 2), another FORM", 2, x.sheet(0, SHORTS, 2));
        due("item 1 is new", 0, x.get(0, SHORTS, 1));
        due("put() as the old FORM", CAST, x.put(0, BYTES, 1, 1));
        due("put() beyond the new size", INDEX, x.put(0, SHORTS, 2, 1));
        x.lose(0);
        due("sheet(0, 2, 1) of one LOST", 1, x.sheet(0, INTS, 1));
        due("lose(0)", 1, x.lose(0));
    }

    private void sheetRefuses() {
        says(27, "BAD: SHEET, FORM, above 60; SIZE.");
        filled(0, BYTES, 7);
        for (int s : outside(0, 3)) {
            due("sheet(" + s + ", 0, 1)", BAD, x.sheet(s, BYTES, 1));
            due("sheet(" + s + ", 0, -1)", BAD, x.sheet(s, BYTES, -1));
        }
        for (int form : outside(0, 2)) {
            due("sheet(0, " + form + ", 1)", BAD, x.sheet(0, form, 1));
            due("sheet(0, " + form + ", -1)", BAD, x.sheet(0, form, -1));
        }
        for (int n : new int[] {61, 62, 255, 65536, GREATEST}) {
            due("sheet(0, 0, " + n + ")", BAD, x.sheet(0, BYTES, n));
        }
        due("count(8): BAD is no FINDING", 0, x.count(8));
        due("sheet(0, 0, -1)", SIZE, x.sheet(0, BYTES, -1));
        due("sheet(0, 2, the least)", SIZE, x.sheet(0, INTS, LEAST));
        due("sheet(1, 2, -1) of one LOST", SIZE, x.sheet(1, INTS, -1));
        due("count(8)", 5, x.count(8));
        due("lose(1): it is LOST still", NULL, x.lose(1));
        rowIs(0, BYTES, 7);
    }

    private void lose() {
        says(28, "It is LOST: how many items it had. BAD; NULL.");
        x.sheet(0, BYTES, 0);
        x.sheet(3, INTS, 60);
        due("lose(0) of no items", 0, x.lose(0));
        due("lose(3) of sixty", 60, x.lose(3));
        due("lose(0) again", NULL, x.lose(0));
        due("lose(3) again", NULL, x.lose(3));
        due("lose(1), LOST at first", NULL, x.lose(1));
        for (int s : outside(0, 3)) {
            due("lose(" + s + ")", BAD, x.lose(s));
        }
        due("get() of it", LEAST, x.get(0, BYTES, 0));
        due("read() by it", BAD, x.read(0, 0));
        due("copy() of it", NULL, x.copy(0, 0, 3, 0, 0));
    }

    private void put() {
        says(29, "Item i, treated as of a FORM, becomes v");
        for (int form = BYTES; form <= INTS; form++) {
            fresh();
            x.sheet(3, form, 60);
            due("put() of item 0", 1, x.put(3, form, 0, 5));
            due("put() of item 59", 1, x.put(3, form, 59, 6));
            due("item 0", 5, x.get(3, form, 0));
            due("item 1", 0, x.get(3, form, 1));
            due("item 58", 0, x.get(3, form, 58));
            due("item 59", 6, x.get(3, form, 59));
            due("put() of item 0 again", 1, x.put(3, form, 0, -5));
            due("item 0", -5, x.get(3, form, 0));
        }
    }

    private void lowestBits() {
        says(29, "(the lowest bits that it has, with its sign; by write(), too)");
        int[] values = {0, 127, 128, 255, 256, 511, -1, -128, -129, -256, 32767, 32768, 65535, 65536, -32768, -32769, GREATEST, LEAST};
        int[] asByte = {0, 127, -128, -1, 0, -1, -1, -128, 127, 0, -1, 0, -1, 0, 0, -1, -1, 0};
        int[] asShort = {0, 127, 128, 255, 256, 511, -1, -128, -129, -256, 32767, -32768, -1, 0, -32768, 32767, -1, 0};
        x.sheet(0, BYTES, 1);
        x.sheet(1, SHORTS, 1);
        x.sheet(2, INTS, 1);
        for (int i = 0; i < values.length; i++) {
            for (int form = BYTES; form <= INTS; form++) {
                due("put() of " + values[i], 1, x.put(form, form, 0, values[i]));
            }
            due("as a byte, " + values[i], asByte[i], x.get(0, BYTES, 0));
            due("as a short, " + values[i], asShort[i], x.get(1, SHORTS, 0));
            due("as an int, " + values[i], values[i], x.get(2, INTS, 0));
        }
        tell(0, "n0003103;n0000004;n0003107;n0000008;n0003131");
        for (int form = BYTES; form <= INTS; form++) {
            x.sheet(form, form, 5);
            due("write(" + form + ")", 5, x.write(form));
        }
        rowIs(0, BYTES, 127, -128, -1, 0, -1);
        rowIs(1, SHORTS, 127, 128, 255, 256, 1023);
        rowIs(2, INTS, 127, 128, 255, 256, 1023);
    }

    private void putRefuses() {
        says(29, "BAD; NULL; CAST; INDEX.");
        filled(1, SHORTS, 7, 8);
        for (int s : outside(0, 3)) {
            due("put(" + s + ", 0, 0, 5)", BAD, x.put(s, BYTES, 0, 5));
        }
        for (int form : outside(0, 2)) {
            due("put(1, " + form + ", 0, 5)", BAD, x.put(1, form, 0, 5));
            due("put(0, " + form + ", 0, 5), LOST too", BAD, x.put(0, form, 0, 5));
        }
        due("count(8): BAD is no FINDING", 0, x.count(8));
        due("put(0, 0, -1, 5), LOST", NULL, x.put(0, BYTES, -1, 5));
        due("count(8)", 1, x.count(8));
        due("put(1, 0, 9, 5), CAST ahead of INDEX", CAST, x.put(1, BYTES, 9, 5));
        due("put(1, 2, -1, 5), CAST ahead of INDEX", CAST, x.put(1, INTS, -1, 5));
        due("count(8)", 3, x.count(8));
        for (int i : outside(0, 1)) {
            due("put(1, 1, " + i + ", 5)", INDEX, x.put(1, SHORTS, i, 5));
        }
        due("count(8)", 2, x.count(8));
        rowIs(1, SHORTS, 7, 8);
        x.sheet(1, SHORTS, 0);
        due("put(1, 1, 0, 5) of no items", INDEX, x.put(1, SHORTS, 0, 5));
    }

    private void get() {
        says(30, "Item i of it. BAD: the least int; so are NULL, CAST, INDEX (count() 8 tells).");
        filled(1, SHORTS, 7, 8);
        due("get(1, 1, 0)", 7, x.get(1, SHORTS, 0));
        due("get(1, 1, 1)", 8, x.get(1, SHORTS, 1));
        for (int s : outside(0, 3)) {
            due("get(" + s + ", 1, 0)", LEAST, x.get(s, SHORTS, 0));
        }
        for (int form : outside(0, 2)) {
            due("get(1, " + form + ", 0)", LEAST, x.get(1, form, 0));
            due("get(0, " + form + ", 0), LOST too", LEAST, x.get(0, form, 0));
        }
        due("count(8): BAD is no FINDING", 0, x.count(8));
        due("get(0, 1, -1), LOST", LEAST, x.get(0, SHORTS, -1));
        due("count(8) tells NULL", 1, x.count(8));
        due("get(1, 2, 9), CAST ahead of INDEX", LEAST, x.get(1, INTS, 9));
        due("count(8) tells CAST", 3, x.count(8));
        for (int i : outside(0, 1)) {
            x.lose(0);
            due("get(1, 1, " + i + ")", LEAST, x.get(1, SHORTS, i));
            due("count(8) tells INDEX", 2, x.count(8));
        }
        filled(2, INTS, LEAST);
        x.lose(0);
        due("get() of the least int", LEAST, x.get(2, INTS, 0));
        due("count(8): that is no FINDING", 1, x.count(8));
    }

    private void copy() {
        says(31, "n items of SHEET s, from i on, come to SHEET t");
        for (int form = BYTES; form <= INTS; form++) {
            filled(0, form, 1, 2, 3, 4, 5);
            filled(1, form, 0, 0, 0);
            due("copy(0, 2, 1, 0, 3), to the end of both", 1, x.copy(0, 2, 1, 0, 3));
            rowIs(1, form, 3, 4, 5);
            due("copy(0, 0, 1, 2, 1)", 1, x.copy(0, 0, 1, 2, 1));
            rowIs(1, form, 3, 4, 1);
            due("copy(0, 0, 1, 0, 0), none", 1, x.copy(0, 0, 1, 0, 0));
            due("copy(0, 5, 1, 3, 0), none at the ends", 1, x.copy(0, 5, 1, 3, 0));
            rowIs(1, form, 3, 4, 1);
            rowIs(0, form, 1, 2, 3, 4, 5);
        }
        x.sheet(2, INTS, 60);
        x.sheet(3, INTS, 60);
        x.put(2, INTS, 0, LEAST);
        x.put(2, INTS, 59, GREATEST);
        due("copy() of sixty", 1, x.copy(2, 0, 3, 0, 60));
        due("item 0", LEAST, x.get(3, INTS, 0));
        due("item 59", GREATEST, x.get(3, INTS, 59));
        x.sheet(2, INTS, 0);
        due("copy() of no items to sixty", 1, x.copy(2, 0, 3, 60, 0));
    }

    private void copyInOne() {
        says(31, "(perhaps s, as they were)");
        filled(0, INTS, 1, 2, 3, 4, 5);
        due("copy(0, 0, 0, 1, 4), upwards", 1, x.copy(0, 0, 0, 1, 4));
        rowIs(0, INTS, 1, 1, 2, 3, 4);
        due("copy(0, 1, 0, 0, 4), downwards", 1, x.copy(0, 1, 0, 0, 4));
        rowIs(0, INTS, 1, 2, 3, 4, 4);
        due("copy(0, 0, 0, 0, 5), upon itself", 1, x.copy(0, 0, 0, 0, 5));
        rowIs(0, INTS, 1, 2, 3, 4, 4);
    }

    private void copyRefuses() {
        says(31, "BAD: the SHEETS; NULL: s, t; STORE;");
        filled(0, BYTES, 7);
        filled(1, SHORTS, 8);
        for (int s : outside(0, 3)) {
            due("copy(" + s + ", 0, 0, 0, 0)", BAD, x.copy(s, 0, 0, 0, 0));
            due("copy(0, 0, " + s + ", 0, 0)", BAD, x.copy(0, 0, s, 0, 0));
            due("copy(3, -1, " + s + ", -1, -1), LOST too", BAD, x.copy(3, -1, s, -1, -1));
        }
        due("count(8): BAD is no FINDING", 0, x.count(8));
        due("copy(3, 0, 0, 0, 0)", NULL, x.copy(3, 0, 0, 0, 0));
        due("copy(0, 0, 3, 0, 0)", NULL, x.copy(0, 0, 3, 0, 0));
        due("copy(3, 0, 3, 0, 0)", NULL, x.copy(3, 0, 3, 0, 0));
        due("copy(0, -1, 3, 9, -1), NULL ahead of INDEX", NULL, x.copy(0, -1, 3, 9, -1));
        due("count(8)", 1, x.count(8));
        due("copy(0, 0, 1, 0, 1)", STORE, x.copy(0, 0, 1, 0, 1));
        due("copy(0, 0, 1, 0, 0), of none", STORE, x.copy(0, 0, 1, 0, 0));
        due("copy(1, -1, 0, 9, -1), STORE ahead of INDEX", STORE, x.copy(1, -1, 0, 9, -1));
        due("count(8)", 4, x.count(8));
        rowIs(0, BYTES, 7);
        rowIs(1, SHORTS, 8);
    }

    private void copyIndex() {
        says(31, "INDEX: i, j or n below 0, not so many there (of n 0, too: i or j above the size).");
        filled(0, INTS, 1, 2, 3, 4, 5);
        filled(1, INTS, 6, 7, 8);
        int[][] wrong = {{-1, 0, 1}, {0, -1, 1}, {0, 0, -1}, {-1, -1, -1}, {LEAST, 0, 0}, {0, LEAST, 0}, {0, 0, LEAST},
            {3, 0, 3}, {5, 0, 1}, {0, 1, 3}, {0, 3, 1}, {0, 0, 4}, {0, 0, 6}, {6, 0, 0}, {0, 4, 0}, {-1, 0, 0}, {0, -1, 0},
            {GREATEST, 0, 0}, {0, GREATEST, 0}, {GREATEST, 0, 1}, {0, GREATEST, 1}, {1, 0, GREATEST}, {0, 1, GREATEST},
            {GREATEST, GREATEST, GREATEST}, {5, 0, LEAST}, {0, 3, LEAST}, {GREATEST, 0, LEAST}};
        for (int[] w : wrong) {
            x.lose(3);
            due("copy(0, " + w[0] + ", 1, " + w[1] + ", " + w[2] + ")", INDEX, x.copy(0, w[0], 1, w[1], w[2]));
            due("count(8)", 2, x.count(8));
        }
        due("copy(0, 3, 0, 2, 3) in one", INDEX, x.copy(0, 3, 0, 2, 3));
        due("copy(0, 2, 0, 3, 3) in one", INDEX, x.copy(0, 2, 0, 3, 3));
        rowIs(0, INTS, 1, 2, 3, 4, 5);
        rowIs(1, INTS, 6, 7, 8);
    }

    private void write() {
        says(32, "SPOTS of PEOPLE 0 on come to a SHEET from item 0 on, as many as there are items and PEOPLE: how many.");
        filled(0, INTS, 7, 8, 9);
        due("write(0) of nobody", 0, x.write(0));
        rowIs(0, INTS, 7, 8, 9);
        tell(0, "n0003131;n0000100");
        due("write(0), more items", 2, x.write(0));
        rowIs(0, INTS, 1023, 1, 9);
        filled(0, INTS, 5, 6);
        due("write(0), just as many", 2, x.write(0));
        rowIs(0, INTS, 1023, 1);
        filled(0, INTS, 5);
        due("write(0), more PEOPLE", 1, x.write(0));
        rowIs(0, INTS, 1023);
        filled(0, INTS);
        due("write(0), no items", 0, x.write(0));
        x.step(0, 0);
        filled(0, SHORTS, 5);
        due("write(0) to shorts", 1, x.write(0));
        due("the SPOT now", 991, x.get(0, SHORTS, 0));
        tell(0, NINE + ";n0003131");
        x.sheet(3, INTS, 60);
        due("write(3) of ten to sixty", 10, x.write(3));
        due("item 9", 1023, x.get(3, INTS, 9));
        due("item 10", 0, x.get(3, INTS, 10));
    }

    private void writeRefuses() {
        says(32, "BAD; NULL.");
        tell(0, TWO);
        for (int s : outside(0, 3)) {
            due("write(" + s + ")", BAD, x.write(s));
        }
        due("count(8): BAD is no FINDING", 0, x.count(8));
        for (int s = 0; s < 4; s++) {
            due("write(" + s + "), LOST", NULL, x.write(s));
        }
        due("count(8)", 1, x.count(8));
    }

    private void count() {
        says(33, "0 PEOPLE, 1, 2 bytes of texts 0, 1, 3 parts of the FAIR, 4 POSTS, 5 DUE, 6 CLEAR, 7 NEAR");
        int[] first = {0, 0, 0, 0, 0, 22, 18, 2, 0};
        countsAre("at first", first);
        tell(0, NINE + ";n0003131");
        tell(1, "=01;02;=34");
        x.post(0);
        x.post(0);
        x.set(0, 90);
        x.set(1, 0);
        x.set(2, 40);
        countsAre("then", 10, 89, 10, 3, 2, 90, 0, 40, 0);
        x.type(0, ';');
        x.type(1, ';');
        countsAre("with FAULTS", 0, 90, 11, 0, 2, 90, 0, 40, 0);
        for (int what : outside(0, 8)) {
            due("count(" + what + ")", BAD, x.count(what));
        }
    }

    private void countsAre(String when, int... want) {
        for (int what = 0; what < want.length; what++) {
            due("count(" + what + ") " + when, want[what], x.count(what));
        }
    }

    private void latestFinding() {
        says(33, "8 the number of the latest FINDING (0 before any). BAD.");
        due("count(8) before any", 0, x.count(8));
        due("sheet(4, 0, 0), BAD", BAD, x.sheet(4, 0, 0));
        due("step(0, 0), BAD", BAD, x.step(0, 0));
        due("count(8) behind BAD", 0, x.count(8));
        x.sheet(0, BYTES, -1);
        due("count(8)", 5, x.count(8));
        x.read(0, 0);
        due("count(8) behind BAD", 5, x.count(8));
        x.write(0);
        due("count(8), the latest", 1, x.count(8));
        x.sheet(0, BYTES, 1);
        due("count(8) behind one that is well", 1, x.count(8));
        due("count(9)", BAD, x.count(9));
        due("count(-1)", BAD, x.count(-1));
    }

    private long h;

    private void mix(long... values) {
        for (long v : values) {
            h = 31 * h + v;
        }
    }

    private long digestByCalls() {
        h = 17;
        for (int what = 0; what <= 7; what++) {
            mix(x.count(what));
        }
        mix(x.fault(0), x.fault(1));
        for (int p = 0; p < x.count(0); p++) {
            for (int what = 0; what <= 4; what++) {
                mix(x.person(p, what));
            }
            mix(x.once(p), x.ends(p), x.hinders(p, 0), x.hinders(p, 1));
        }
        mix(x.pairs(), x.once(NONE), x.worth(), x.judged(0), x.judged(1), x.judged(2), x.sees());
        mix(x.more(0), x.more(1), x.broker(0), x.broker(1), x.other(10, 30, 0), x.other(10, 30, 1));
        if (x.count(0) >= 2) {
            mix(x.comes(0, 1));
        }
        return h;
    }

    /** The digest is asked for first: it must not lean on what other calls have worked out. */
    private void digestIs(String call) {
        long got = x.digest();
        due(call, digestByCalls(), got);
    }

    private void digest() {
        says(34, "h is 17; h becomes 31 h and each of (of each thing all that is told of it, then of the next one)");
        h = 17;
        mix(0, 0, 0, 0, 0, 22, 18, 2, NONE, NONE, 0, 0, 0, NONE, 0, 0, 0, 0, 0, NONE, 0, 10, 0);
        due("digest() of a new object", h, x.digest());
        field("s1200505;b1301605;b1400516;s1301616;n0002705", 22, 0, 2);
        tell(1, "=01;42;=23;=01");
        x.post(0);
        x.post(11);
        digestIs("digest() of five");
        x.set(1, 18);
        x.step(4, 3);
        digestIs("digest() behind a step");
        field(TWO + ";n0000506", 22, 18, 2);
        digestIs("digest() with one in the way");
        field("s1200505;b1302705", 22, 18, 2);
        digestIs("digest() with a broker");
        x.type(0, ';');
        digestIs("digest() with a FAULT");
        for (int paces : new int[] {4, 5, 15, 16}) {
            field("s1200505;b13005" + two(5 + paces), 22, 18, 2);
            digestIs("digest(), other() by " + 2 * paces);
        }
        long before = x.digest();
        x.lose(0);
        x.sheet(1, INTS, 5);
        due("digest() looks at no SHEETS and no FINDING", before, x.digest());
    }

    private void digestOfTwo() {
        says(34, "with two and more comes(0, 1)");
        field("s1200505", 22, 18, 2);
        h = 17;
        mix(1, 8, 0, 0, 0, 22, 18, 2, NONE, NONE);
        mix(0, 1, 20, 5, 5, NONE, at(5, 5), 0, 0);
        mix(0, 0, 0, NONE, 0, 0, 0, 0, 0, NONE, 0, 10, 0);
        due("digest() of one", h, x.digest());
        field("s1200505;b1301705", 22, 18, 2);
        h = 17;
        mix(2, 17, 0, 0, 0, 22, 18, 2, NONE, NONE);
        mix(0, 1, 20, 5, 5, NONE, at(5, 5), 0, 0);
        mix(1, 1, 30, 17, 5, NONE, at(17, 5), 0, 0);
        mix(0, 0, 0, NONE, 0, 0, 0, 0, 0, NONE, 0, 24, 1, 1);
        due("digest() of two", h, x.digest());
        x.set(0, 23);
        digestIs("digest() of two where one never comes");
    }

    private void digestWraps() {
        says(34, "as longs that wrap.");
        field("s1200505;b1301605;b1400516;s1301616;n0002705", 22, 0, 2);
        BigInteger whole = BigInteger.valueOf(17);
        long[] row = {5, 44, 0, 0, 0, 22, 0, 2, NONE, NONE,
            0, 1, 20, 5, 5, 1, at(5, 5), 0, 0, 1, 1, 30, 16, 5, 0, at(16, 5), 0, 0,
            1, 1, 40, 5, 16, 3, at(5, 16), 0, 0, 0, 1, 30, 16, 16, 2, at(16, 16), 0, 0,
            2, 0, 0, 27, 5, NONE, at(27, 5), 0, 0,
            4, 2, 20, NONE, 0, 0, 0, 0, 0, NONE, 0, 22, 4, 0};
        for (long v : row) {
            whole = whole.multiply(BigInteger.valueOf(31)).add(BigInteger.valueOf(v));
        }
        due("without a wrap it has more bits than a long", 1, whole.bitLength() > 64 ? 1 : 0);
        due("digest()", whole.longValue(), x.digest());
    }
}
