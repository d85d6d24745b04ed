/** For each promise of the document its ordinary answers, its edges and its refusals. */
public final class PromisesTest {
    private static final int NONE = -1, BAD = -2, NOT = -3, FULL = -4;
    private static final int NULL = -11, INDEX = -12, CAST = -13, STORE = -14, SIZE = -15;
    private static final int LEAST = Integer.MIN_VALUE, GREATEST = Integer.MAX_VALUE;

    private final Check check = new Check();
    private ElevenPaces x = new ElevenPaces();

    public static void main(String[] args) {
        PromisesTest t = new PromisesTest();
        t.aNewObject();
        t.type();
        t.typePutsAllBack();
        t.wipe();
        t.faultOfPeople();
        t.faultOfPeopleOneByOne();
        t.faultOfFair();
        t.set();
        t.person();
        t.step();
        t.stepNear();
        t.read();
        t.home();
        t.away();
        t.binds();
        t.bindsTrade();
        t.bindsClear();
        t.pairs();
        t.once();
        t.onceLeastRow();
        t.judged();
        t.judgedBreaks();
        t.comes();
        t.comesAround();
        t.comesAtTheEdges();
        t.comesFromTooNear();
        t.hinders();
        t.posts();
        t.sees();
        t.more();
        t.both();
        t.broker();
        t.brokerAtTheEdges();
        t.brokerThings();
        t.brokerClear();
        t.other();
        t.sheet();
        t.lose();
        t.putAndGet();
        t.refusalsOfPutAndGet();
        t.copy();
        t.refusalsOfCopy();
        t.write();
        t.count();
        t.digest();
        t.check.end();
    }

    private void due(String call, long want, long got) {
        check.due(call, want, got);
    }

    private void fresh() {
        x = new ElevenPaces();
    }

    private void tell(int text, String s) {
        x.wipe(text);
        for (int i = 0; i < s.length(); i++) {
            due("type of " + s + " at " + i, i + 1, x.type(text, s.charAt(i)));
        }
    }

    /** A new object with PEOPLE and the SETTINGS DUE, CLEAR, NEAR. */
    private void field(String people, int due, int clear, int near) {
        fresh();
        tell(0, people);
        x.set(0, due);
        x.set(1, clear);
        x.set(2, near);
    }

    private int spot(int p) {
        return 32 * x.person(p, 4) + x.person(p, 3);
    }

    // ---- 1

    private void aNewObject() {
        fresh();
        int[] counts = {0, 0, 0, 0, 0, 22, 18, 2, 0};
        for (int what = 0; what < counts.length; what++) {
            due("new count " + what, counts[what], x.count(what));
        }
        for (int s = 0; s < 4; s++) {
            due("new lose", NULL, x.lose(s));
        }
        due("new person", BAD, x.person(0, 0));
        due("new fault 0", NONE, x.fault(0));
        due("new fault 1", NONE, x.fault(1));
        due("new judged", NONE, x.judged(0));
    }

    // ---- 2 type

    private void type() {
        fresh();
        due("type 0", 1, x.type(0, 0));
        due("type 255", 2, x.type(0, 255));
        due("type the other", 1, x.type(1, 0));
        due("type byte 256", BAD, x.type(0, 256));
        due("type byte -1", BAD, x.type(0, -1));
        due("type text 2", BAD, x.type(2, 48));
        due("type text -1", BAD, x.type(-1, 48));
        for (int i = 3; i <= 90; i++) {
            due("type", i, x.type(0, 's'));
        }
        due("type full", FULL, x.type(0, 's'));
        due("type full and bad", BAD, x.type(0, 256));
        due("count behind full", 90, x.count(1));
        for (int i = 2; i <= 60; i++) {
            due("type fair", i, x.type(1, '='));
        }
        due("type fair full", FULL, x.type(1, '='));
        due("count behind full", 60, x.count(2));
    }

    private void typePutsAllBack() {
        fresh();
        tell(0, "s0100505");
        x.step(0, 2);
        due("type bad leaves", BAD, x.type(0, 256));
        due("type fair leaves", 1, x.type(1, '0'));
        due("stands where it went", 6, x.person(0, 3));
        due("wipe fair leaves", 1, x.wipe(1));
        due("stands where it went", 6, x.person(0, 3));
        String more = ";b0200909";
        for (int i = 0; i < more.length(); i++) {
            x.type(0, more.charAt(i));
        }
        due("is back", 5, x.person(0, 3));
        due("two", 2, x.count(0));
    }

    // ---- 3 wipe

    private void wipe() {
        fresh();
        due("wipe empty", 0, x.wipe(0));
        tell(0, "s0100505");
        tell(1, "00");
        due("wipe", 8, x.wipe(0));
        due("nobody", 0, x.count(0));
        due("no bytes", 0, x.count(1));
        due("well", NONE, x.fault(0));
        due("fair of nobody", 0, x.fault(1));
        due("wipe fair", 2, x.wipe(1));
        due("fair is well", NONE, x.fault(1));
        due("wipe 2", BAD, x.wipe(2));
        due("wipe -1", BAD, x.wipe(-1));
    }

    // ---- 4 fault

    private void faultIs(int text, String s, int want) {
        tell(text, s);
        due("fault of " + s, want, x.fault(text));
    }

    private void faultOfPeople() {
        fresh();
        due("fault 2", BAD, x.fault(2));
        due("fault -1", BAD, x.fault(-1));
        faultIs(0, "S", 0);
        faultIs(0, ";", 0);
        faultIs(0, "s", 1);
        faultIs(0, "s4", 1);
        faultIs(0, "sx", 1);
        faultIs(0, "s3", 2);
        faultIs(0, "s3x", 2);
        faultIs(0, "s39", 3);
        faultIs(0, "s399", 4);
        faultIs(0, "s399/", 4);
        faultIs(0, "s399:", 4);
        faultIs(0, "s3999", 5);
        faultIs(0, "s3999x", 5);
        faultIs(0, "s39932", 4);
        faultIs(0, "s3993199", 6);
        faultIs(0, "s3993132", 6);
        faultIs(0, "s399319x", 7);
        faultIs(0, "s3993131", NONE);
        faultIs(0, "s0000000", NONE);
        faultIs(0, "s0000000s", 8);
        faultIs(0, "s0000000;", 9);
        faultIs(0, "s0000000;b0000000;n00000;0", 24);
        faultIs(0, "s0000000;b0003200;x", 13);
        due("with a fault nobody", 0, x.count(0));
        faultIs(0, "s0000000;b0003200", 13);
    }

    private void faultOfPeopleOneByOne() {
        fresh();
        StringBuilder ten = new StringBuilder("s0010203");
        for (int p = 1; p < 10; p++) {
            ten.append(";b10").append(p).append("0").append(p).append("31");
        }
        tell(0, ten.toString());
        due("ten", 10, x.count(0));
        due("ten are well", NONE, x.fault(0));
        x.type(0, ';');
        due("an eleventh", 90, x.fault(0));
        due("nobody then", 0, x.count(0));
    }

    private void faultOfFair() {
        fresh();
        tell(0, "s0100000;b0200505;n0000909");
        faultIs(1, "", NONE);
        faultIs(1, "0", 1);
        faultIs(1, "07", NONE);
        faultIs(1, "08", 1);
        faultIs(1, "0x", 1);
        faultIs(1, "3", 0);
        faultIs(1, "37", 0);
        faultIs(1, "x", 0);
        faultIs(1, "=", 1);
        faultIs(1, "=3", 1);
        faultIs(1, "=x", 1);
        faultIs(1, "=0", 2);
        faultIs(1, "=00", 2);
        faultIs(1, "=03", 2);
        faultIs(1, "=0x", 2);
        faultIs(1, "=01", NONE);
        faultIs(1, "=012", 3);
        faultIs(1, "=01;", 4);
        faultIs(1, "=01;;", 4);
        faultIs(1, "=01;27;==", 8);
        due("parts with a fault", 0, x.count(3));
        faultIs(1, "=01;27;=20", NONE);
        due("parts", 3, x.count(3));
        tell(0, "s0100000;b0200505");
        due("fewer people", 4, x.fault(1));
        tell(0, "s0100000;b0200505;n000090");
        due("people with a fault", 1, x.fault(1));
        faultIs(1, "00;00;00;00;00;00;00;00;00;00;00;00;00;00;00;00;00;00;00;00", 0);
        tell(0, "s0100000");
        due("twenty parts", NONE, x.fault(1));
        due("twenty parts", 20, x.count(3));
        x.type(1, ';');
        due("full and not ended", 60, x.fault(1));
    }

    // ---- 5 set

    private void set() {
        fresh();
        int[][] is = {{22, 1, 90}, {18, 0, 90}, {2, 0, 40}};
        for (int what = 0; what < 3; what++) {
            due("set below", BAD, x.set(what, is[what][1] - 1));
            due("set above", BAD, x.set(what, is[what][2] + 1));
            due("set least", is[what][0], x.set(what, is[what][1]));
            due("set most", is[what][1], x.set(what, is[what][2]));
            due("set again", is[what][2], x.set(what, 5 + what));
            due("count of it", 5 + what, x.count(5 + what));
        }
        due("set 3", BAD, x.set(3, 5));
        due("set -1", BAD, x.set(-1, 5));
    }

    // ---- 6 person

    private void person() {
        fresh();
        tell(0, "s1200531;b3990007;n0001213");
        int[][] want = {{0, 1, 20, 5, 31}, {1, 3, 99, 0, 7}, {2, 0, 0, 12, 13}};
        for (int p = 0; p < 3; p++) {
            for (int what = 0; what < 5; what++) {
                due("person " + p + " " + what, want[p][what], x.person(p, what));
            }
        }
        due("person 3", BAD, x.person(3, 0));
        due("person -1", BAD, x.person(-1, 0));
        due("person what 5", BAD, x.person(0, 5));
        due("person what -1", BAD, x.person(0, -1));
        due("person far", BAD, x.person(GREATEST, LEAST));
    }

    // ---- 7 step

    private void step() {
        int[] to = {9 * 32 + 10, 9 * 32 + 11, 10 * 32 + 11, 11 * 32 + 11, 11 * 32 + 10, 11 * 32 + 9, 10 * 32 + 9, 9 * 32 + 9};
        fresh();
        tell(0, "n0001010");
        for (int d = 0; d < 8; d++) {
            due("step " + d, 1, x.step(0, d));
            due("stands behind " + d, to[d], spot(0));
            x.home();
        }
        due("step 8", BAD, x.step(0, 8));
        due("step -1", BAD, x.step(0, -1));
        due("step of nobody", BAD, x.step(1, 0));
        due("step of NONE", BAD, x.step(-1, 0));
        tell(0, "n0000000");
        int[] corner = {NOT, NOT, 1, 1, 1, NOT, NOT, NOT};
        int[] far = {1, NOT, NOT, NOT, NOT, NOT, 1, 1};
        for (int d = 0; d < 8; d++) {
            due("step at the corner " + d, corner[d], x.step(0, d));
            x.home();
        }
        tell(0, "n0003131");
        for (int d = 0; d < 8; d++) {
            due("step at the far corner " + d, far[d], x.step(0, d));
            due("stands", far[d] == 1 ? 0 : 1023, far[d] == 1 ? 0 : spot(0));
            x.home();
        }
    }

    private void stepNear() {
        field("n0001010;n0001210", 22, 18, 2);
        due("step beside", 1, x.step(0, 2));
        due("step upon", NOT, x.step(0, 2));
        due("stays", 10 * 32 + 11, spot(0));
        x.set(2, 0);
        due("step upon, NEAR 0", 1, x.step(0, 2));
        due("away 0", 0, x.away(0, 1));
        x.set(2, 3);
        due("from too near to still too near", NOT, x.step(0, 3));
        x.set(2, 2);
        due("from too near to just NEAR", 1, x.step(0, 2));
    }

    // ---- 8 read

    private void read() {
        fresh();
        tell(0, "n0000000;n0000500");
        due("read lost", NULL, x.read(0, 0));
        due("read finding", 1, x.count(8));
        x.sheet(0, 1, 4);
        due("read of nobody", BAD, x.read(0, 2));
        due("read of NONE", BAD, x.read(0, -1));
        due("read sheet 4", BAD, x.read(4, 0));
        due("read sheet -1", BAD, x.read(-1, 0));
        due("read lost of nobody", BAD, x.read(1, 2));
        due("read off the field", 0, x.read(0, 0));
        for (int i = 0; i < 4; i++) {
            x.put(0, 1, i, 2);
        }
        due("read all", 4, x.read(0, 0));
        due("stands", 4, spot(0));
        due("read into another", 0, x.read(0, 0));
        x.home();
        x.put(0, 1, 2, 8);
        due("read to 8", 2, x.read(0, 0));
        due("stands", 2, spot(0));
        x.put(0, 1, 0, -1);
        due("read -1", 0, x.read(0, 0));
        x.sheet(0, 0, 0);
        due("read empty", 0, x.read(0, 0));
    }

    // ---- 9 home

    private void home() {
        fresh();
        due("home of nobody", 0, x.home());
        tell(0, "n0000505;n0001005;n0001505");
        x.step(0, 3);
        x.step(2, 3);
        due("home", 2, x.home());
        due("stands", 5 * 32 + 5, spot(0));
        due("stands", 5 * 32 + 15, spot(2));
        x.step(1, 0);
        x.step(1, 4);
        due("home of one who came back", 0, x.home());
    }

    // ---- 10 away

    private void away() {
        fresh();
        tell(0, "n0000000;n0003131;n0000304");
        due("away most", 4 * (31 * 31 + 31 * 31), x.away(0, 1));
        due("away 5", 100, x.away(0, 2));
        due("away likewise", 100, x.away(2, 0));
        due("away of oneself", 0, x.away(1, 1));
        due("away of nobody", BAD, x.away(0, 3));
        due("away of nobody", BAD, x.away(-1, 0));
        x.step(2, 0);
        due("away now", 72, x.away(0, 2));
    }

    // ---- 11 binds

    private void binds() {
        field("s1200505;b1311605", 22, 18, 2);
        due("binds", 0, x.binds(0, 1, 0));
        due("nearer", NONE, x.binds(0, 1, 1));
        due("worth", 11, x.binds(0, 1, 2));
        due("struck", 25, x.binds(0, 1, 3));
        due("struck likewise", 25, x.binds(1, 0, 3));
        due("worth likewise", 11, x.binds(1, 0, 2));
        due("binds what 4", BAD, x.binds(0, 1, 4));
        due("binds what -1", BAD, x.binds(0, 1, -1));
        due("binds oneself", BAD, x.binds(0, 0, 0));
        due("binds nobody", BAD, x.binds(0, 2, 0));
        due("binds NONE", BAD, x.binds(-1, 0, 0));
        x.set(0, 21);
        due("binds by 21", 1, x.binds(0, 1, 0));
        due("worth by 21", NOT, x.binds(0, 1, 2));
        due("struck by 21", NOT, x.binds(0, 1, 3));
        field("s1000000;b1100304", 10, 0, 2);
        due("binds aslant", 0, x.binds(0, 1, 0));
    }

    private void tradeIs(String one, String another, int want) {
        field(one + "0505;" + another + "1605", 22, 18, 2);
        due("binds " + one + " " + another, want, x.binds(0, 1, 0));
        due("binds " + another + " " + one, want, x.binds(1, 0, 0));
        due("worth " + one + " " + another, want == 0 ? Math.abs(x.person(0, 2) - x.person(1, 2)) : NOT, x.binds(0, 1, 2));
    }

    private void bindsTrade() {
        tradeIs("s120", "b120", 0);
        tradeIs("s120", "b121", 0);
        tradeIs("s121", "b120", 3);
        tradeIs("b121", "s120", 0);
        tradeIs("b120", "s121", 3);
        tradeIs("s120", "b220", 3);
        tradeIs("s120", "s120", 3);
        tradeIs("b120", "b120", 3);
        tradeIs("n120", "b120", 3);
        tradeIs("s120", "n120", 3);
    }

    private void bindsClear() {
        field("s1200505;b1301605;n0000514;n0002514", 22, 18, 2);
        due("just CLEAR", 0, x.binds(0, 1, 0));
        x.step(2, 0);
        due("nearer to one", 2, x.binds(0, 1, 0));
        due("who", 2, x.binds(0, 1, 1));
        x.home();
        for (int i = 0; i < 8; i++) {
            x.step(3, 6);
        }
        due("not yet nearer", 0, x.binds(0, 1, 0));
        x.step(3, 0);
        due("nearer to the other", 3, x.binds(0, 1, 1));
        due("nearer to the other", 2, x.binds(0, 1, 0));
        x.step(2, 0);
        due("the least", 2, x.binds(0, 1, 1));
        due("ahead of no trade", 2, x.binds(0, 1, 0));
        x.set(0, 23);
        due("ahead of nearer", 1, x.binds(0, 1, 0));
        due("who, though", 2, x.binds(0, 1, 1));
        field("n0000505;n0001605;n0000505", 22, 1, 2);
        due("nearer ahead of no trade", 2, x.binds(0, 1, 0));
        x.set(1, 0);
        due("CLEAR 0", 3, x.binds(0, 1, 0));
    }

    // ---- 12 pairs

    private void pairs() {
        fresh();
        due("pairs of nobody", 0, x.pairs());
        field("s1200505;b1301605;b1400516;s1301616;n0002705", 22, 0, 2);
        due("pairs", 4, x.pairs());
        x.step(3, 3);
        due("pairs now", 2, x.pairs());
        x.set(0, 24);
        due("pairs by 24", 0, x.pairs());
    }

    // ---- 13, 14 once, worth

    private void rowIs(int... with) {
        for (int p = 0; p < with.length; p++) {
            due("once " + p, with[p], x.once(p));
        }
    }

    private void once() {
        fresh();
        due("once of nobody", 0, x.once(NONE));
        due("worth of nobody", 0, x.worth());
        due("once 0", BAD, x.once(0));
        field("s1200505;b1301605;b1400516;s1301616;n0002705", 22, 0, 2);
        due("once", 2, x.once(NONE));
        due("worth", 10 + 10, x.worth());
        rowIs(1, 0, 3, 2, NONE);
        due("once -2", BAD, x.once(-2));
        due("once 5", BAD, x.once(5));
        // 1 could have much of 0, but then 2 has nobody: more pairs go ahead of more WORTH
        field("s1000505;b1991605;s1902705", 22, 0, 2);
        due("one pair", 1, x.once(NONE));
        due("most worth", 99, x.worth());
        rowIs(1, 0, NONE);
        field("s1900505;b1991605;s1002705", 22, 0, 2);
        due("most worth", 99, x.worth());
        rowIs(NONE, 2, 1);
        field("b1500505;s1001605;b1992705;s1402716", 22, 0, 2);
        due("two pairs", 2, x.once(NONE));
        due("less worth than one", 50 + 59, x.worth());
        rowIs(1, 0, 3, 2);
        field("b1010505;s1001605;b1992705;s1992716", 22, 0, 2);
        due("two pairs", 2, x.once(NONE));
        due("of less worth", 1, x.worth());
        rowIs(1, 0, 3, 2);
    }

    private void onceLeastRow() {
        // three sellers on one SPOT, two buyers on another: all alike
        field("s1200505;s1200505;s1200505;b1301605;b1301605", 22, 0, 2);
        due("six bind", 6, x.pairs());
        due("two", 2, x.once(NONE));
        due("worth", 20, x.worth());
        rowIs(3, 4, NONE, 0, 1);
        field("b1301605;s1200505;b1301605;s1200505;s1100505", 22, 0, 2);
        due("worth", 30, x.worth());
        rowIs(1, 0, 4, NONE, 2);
        field("s1000505;s1000505;s1000505;s1000505;s1000505;b1011605;b1021605;b1031605;b1041605;b1051605", 22, 0, 2);
        due("25 bind", 25, x.pairs());
        due("five", 5, x.once(NONE));
        due("worth", 15, x.worth());
        rowIs(5, 6, 7, 8, 9, 0, 1, 2, 3, 4);
    }

    // ---- 15, 16 judged, ends

    private void judged() {
        field("s1200505;b1301505;n0002020", 22, 0, 2);
        due("no fair", NONE, x.judged(0));
        due("no fair", 0, x.judged(1));
        due("no fair", 0, x.judged(2));
        due("ends where one stands", 5 * 32 + 5, x.ends(0));
        tell(1, "12;=01;24;10");
        due("holds", NONE, x.judged(0));
        due("done", 1, x.judged(1));
        due("worth", 10, x.judged(2));
        due("ends", 5 * 32 + 5, x.ends(0));
        due("ends", 4 * 32 + 16, x.ends(1));
        due("ends", 21 * 32 + 20, x.ends(2));
        due("changes nothing", 5 * 32 + 15, spot(1));
        due("again", NONE, x.judged(0));
        due("judged 3", BAD, x.judged(3));
        due("judged -1", BAD, x.judged(-1));
        due("ends of nobody", BAD, x.ends(3));
        due("ends of NONE", BAD, x.ends(-1));
        x.step(1, 2);
        due("from where all stand", 1, x.judged(0));
        due("none done", 0, x.judged(1));
        due("ends", 5 * 32 + 17, x.ends(1));
        x.type(1, ';');
        due("with a fault", NONE, x.judged(0));
        due("with a fault", 5 * 32 + 16, x.ends(1));
    }

    private void judgedBreaks() {
        field("s1200500;b1301600;b1500511;s1401611;n0000600", 22, 0, 2);
        tell(1, "=01;=23;=01");
        due("twice", 2, x.judged(0));
        due("two done", 2, x.judged(1));
        due("worth", 20, x.judged(2));
        tell(1, "=10;=02");
        due("one of them has", 1, x.judged(0));
        tell(1, "=01;=02");
        due("the first of them has", 1, x.judged(0));
        tell(1, "=32;=02");
        due("the other one has", 1, x.judged(0));
        due("worth", 10, x.judged(2));
        tell(1, "=03");
        due("does not bind", 0, x.judged(0));
        tell(1, "24;00;24");
        due("off the field", 1, x.judged(0));
        due("stays from there on", 12 * 32 + 5, x.ends(2));
        tell(1, "02");
        due("upon another", 0, x.judged(0));
        x.set(1, 4);
        tell(1, "=01");
        due("another is nearer", 0, x.judged(0));
        tell(1, "44;44;=01");
        due("and then no more", NONE, x.judged(0));
        x.set(1, 0);
        tell(1, "34;=13");
        due("one must stand so", 1, x.judged(0));
        due("none done", 0, x.judged(1));
        field("n0000506;s1200505;b1301605", 22, 10, 2);
        tell(1, "=12");
        due("the first one is nearer", 0, x.judged(0));
        due("none done", 0, x.judged(1));
    }

    // ---- 17, 18 comes, way

    private void comes() {
        field("s1200505;b1301605;n0003131", 22, 18, 2);
        due("at once", 0, x.comes(0, 1));
        due("no way", NONE, x.way(0, 1, 0));
        due("comes oneself", BAD, x.comes(0, 0));
        due("comes nobody", BAD, x.comes(0, 3));
        due("comes NONE", BAD, x.comes(-1, 0));
        due("no trade", NONE, x.comes(0, 2));
        due("way never", NONE, x.way(0, 2, 0));
        due("way nobody", BAD, x.way(0, 3, 0));
        due("way NONE", BAD, x.way(-1, 1, 0));
        due("way oneself", BAD, x.way(1, 1, 0));
        due("way -1", BAD, x.way(0, 1, -1));
        x.step(0, 6);
        due("one step", 1, x.comes(0, 1));
        due("east", 2, x.way(0, 1, 0));
        due("beyond", NONE, x.way(0, 1, 1));
        due("far beyond", NONE, x.way(0, 1, GREATEST));
        due("the other one", 1, x.comes(1, 0));
        due("west", 6, x.way(1, 0, 0));
        x.set(0, 24);
        due("at once by 24", 0, x.comes(0, 1));
        x.set(0, 23);
        due("never by 23", NONE, x.comes(0, 1));
        due("moves nobody", 5 * 32 + 4, spot(0));
        field("s1201000;b1301010", 10, 0, 2);
        due("five south", 5, x.comes(0, 1));
        wayIs(3, 3, 4, 5, 5, NONE);
        x.step(1, 4);
        due("six south", 6, x.comes(0, 1));
        wayIs(3, 3, 3, 5, 5, 5, NONE);
    }

    private void wayIs(int... row) {
        for (int i = 0; i < row.length; i++) {
            due("way " + i, row[i], x.way(0, 1, i));
        }
    }

    private void comesAround() {
        // a wall of people between whom one gets by NEAR 2, and not by NEAR 4
        field("s1200500;b1302200;n0001001;n0001004;n0001007;n0001010", 20, 0, 2);
        due("straight on", 7, x.comes(0, 1));
        x.set(2, 4);
        int steps = x.comes(0, 1);
        due("12 to 9, 12 at its south end, then 7 to 16, 8", 19, steps);
        for (int i = 0; i < steps; i++) {
            due("each is lawful", 1, x.step(0, x.way(0, 1, 0)));
            due("one fewer", steps - 1 - i, x.comes(0, 1));
        }
        due("binds behind it", 0, x.binds(0, 1, 0));
        // who is in the way of the other one stays there
        field("s1200500;b1302000;n0002001", 20, 4, 2);
        due("never clear", NONE, x.comes(0, 1));
        x.set(1, 2);
        due("clear", 5, x.comes(0, 1));
        // the SPOT due is not clear of a third, so another one is
        field("s1200500;b1302010;n0001010", 20, 4, 2);
        check.that("not beside a third", x.comes(0, 1) > 0);
        int far = x.comes(0, 1);
        for (int i = 0; i < far; i++) {
            x.step(0, x.way(0, 1, 0));
        }
        due("binds behind it", 0, x.binds(0, 1, 0));
    }

    private void comesAtTheEdges() {
        field("s1200302;b1301100", 22, 0, 2);
        due("to the first spot", 3, x.comes(0, 1));
        wayIs(6, 7, 7, NONE);
        field("s1202929;b1302031", 22, 0, 2);
        due("to the last spot", 2, x.comes(0, 1));
        wayIs(3, 3, NONE);
        field("s1200028;b1300031", 2, 0, 2);
        due("not beyond the field", 2, x.comes(0, 1));
        wayIs(3, 5, NONE);
    }

    private void comesFromTooNear() {
        // 0 and 2 stand on one SPOT: the first STEP leads out of it, and none back
        field("s1200500;b1301700;n0000500", 22, 0, 2);
        due("out of one spot", 1, x.comes(0, 1));
        due("east", 2, x.way(0, 1, 0));
        field("s1200600;b1301700;n0000600", 22, 0, 2);
        due("at once, too near", 0, x.comes(0, 1));
        // 11 paces from 18, 0 there are 7, 0, where another stands, and 18, 11 and 29, 0
        field("s1200600;b1301800;n0000700", 22, 0, 2);
        due("the nearest is taken", 12, x.comes(0, 1));
    }

    // ---- 19 hinders

    private void hinders() {
        field("s1200505;b1301605;n0001010;s0000515;b0051615", 22, 15, 2);
        due("pairs", 0, x.pairs());
        due("hinders", 2, x.hinders(2, 0));
        due("lost", 15, x.hinders(2, 1));
        due("is in no way", 0, x.hinders(0, 0));
        due("is in no way", 0, x.hinders(0, 1));
        due("hinders nobody", BAD, x.hinders(5, 0));
        due("hinders NONE", BAD, x.hinders(-1, 0));
        due("hinders 2", BAD, x.hinders(2, 2));
        due("hinders -1", BAD, x.hinders(2, -1));
        // two in the way: neither alone
        field("s1200505;b1301605;n0001006;n0001007", 22, 14, 2);
        due("not alone", 0, x.hinders(2, 0));
        due("not alone", 0, x.hinders(3, 0));
        field("s1200505;b1301605;n0001006", 22, 10, 2);
        due("binds anyway", 0, x.hinders(2, 0));
    }

    // ---- 20, 21 post, gone

    private void posts() {
        fresh();
        due("gone of none", 0, x.gone());
        for (int i = 0; i < 8; i++) {
            due("post", i, x.post(i < 2 ? 1023 : i));
            due("posts", i + 1, x.count(4));
        }
        due("post full", FULL, x.post(0));
        due("post full and bad", BAD, x.post(1024));
        due("post -1", BAD, x.post(-1));
        due("gone", 8, x.gone());
        due("none", 0, x.count(4));
        due("post anew", 0, x.post(0));
    }

    // ---- 22 sees

    private void sees() {
        fresh();
        due("sees of none", 0, x.sees());
        x.post(0);
        x.post(11);
        due("sees", 1, x.sees());
        x.post(11);
        due("two on one", 2, x.sees());
        x.post(11 * 32 + 11);
        due("a square", 4, x.sees());
        x.set(0, 20);
        due("by 20", 0, x.sees());
        x.gone();
        x.post(0);
        x.post(8 * 32 + 6);
        due("aslant", 1, x.sees());
    }

    // ---- 23 more

    private void more() {
        fresh();
        due("more of none", 0, x.more(0));
        due("more of none", 0, x.more(1));
        due("more 2", BAD, x.more(2));
        due("more -1", BAD, x.more(-1));
        x.post(15 * 32 + 15);
        due("more", 4 * 32 + 15, x.more(0));
        due("to one", 1, x.more(1));
        x.post(4 * 32 + 26);
        due("more to two", 4 * 32 + 15, x.more(0));
        due("to two", 2, x.more(1));
        x.gone();
        x.post(15 * 32 + 15);
        x.post(26 * 32 + 4);
        due("the lesser of two", 15 * 32 + 4, x.more(0));
        x.post(26 * 32 + 26);
        due("to three", 26 * 32 + 15, x.more(0));
        due("to three", 3, x.more(1));
        x.set(0, 1);
        due("by an odd one none", 0, x.more(0));
        due("by an odd one none", 0, x.more(1));
        x.gone();
        x.set(0, 22);
        due("behind gone", 0, x.more(1));
        // five paces from 0, 32, which is no SPOT
        x.set(0, 10);
        x.post(27 * 32);
        x.post(28 * 32 + 3);
        x.post(29 * 32 + 4);
        due("not beyond the field", 2, x.more(1));
        due("not beyond the field", 23 * 32 + 3, x.more(0));
    }

    // ---- 24 both

    private void both() {
        fresh();
        x.post(0);
        x.post(0);
        x.post(31 * 32 + 31);
        due("both of one spot", 2, x.both(0, 1, NONE));
        due("both 0", 11, x.both(0, 1, 0));
        due("both 1", 11 * 32, x.both(1, 0, 1));
        due("both beyond", NONE, x.both(0, 1, 2));
        due("both far beyond", NONE, x.both(0, 1, GREATEST));
        due("none", 0, x.both(0, 2, NONE));
        due("none", NONE, x.both(0, 2, 0));
        due("both -2", BAD, x.both(0, 1, -2));
        due("both itself", BAD, x.both(1, 1, NONE));
        due("both 3", BAD, x.both(0, 3, NONE));
        due("both 3", BAD, x.both(3, 0, NONE));
        due("both -1", BAD, x.both(-1, 0, NONE));
        x.gone();
        x.post(11);
        x.post(11 * 32);
        due("the first spot", 2, x.both(0, 1, NONE));
        due("the first spot", 0, x.both(0, 1, 0));
        due("the second", 11 * 32 + 11, x.both(0, 1, 1));
        x.gone();
        x.set(0, 2);
        x.post(31 * 32);
        x.post(31 * 32);
        due("not beyond the field", 2, x.both(0, 1, NONE));
        due("not beyond the field", NONE, x.both(0, 1, 2));
        x.gone();
        x.set(0, 10);
        x.post(10 * 32 + 10);
        x.post(10 * 32 + 10);
        int[] ring = {5 * 32 + 10, 6 * 32 + 7, 6 * 32 + 13, 7 * 32 + 6, 7 * 32 + 14, 10 * 32 + 5, 10 * 32 + 15,
            13 * 32 + 6, 13 * 32 + 14, 14 * 32 + 7, 14 * 32 + 13, 15 * 32 + 10};
        due("twelve", 12, x.both(0, 1, NONE));
        for (int i = 0; i < 12; i++) {
            due("both " + i, ring[i], x.both(0, 1, i));
        }
    }

    // ---- 25 broker

    private void broker() {
        fresh();
        due("broker of nobody", NONE, x.broker(0));
        due("broker of nobody", 0, x.broker(1));
        due("broker 2", BAD, x.broker(2));
        due("broker -1", BAD, x.broker(-1));
        field("s1200505;b1302705", 22, 18, 2);
        due("between the two", 5 * 32 + 16, x.broker(0));
        due("what it is", 10, x.broker(1));
        field("s1300505;b1302705", 22, 18, 2);
        due("above 0", NONE, x.broker(0));
        due("is 0", 0, x.broker(1));
        field("s1400505;b1302705", 22, 18, 2);
        due("no loss", NONE, x.broker(0));
        field("s1200505;n1302705", 22, 18, 2);
        due("both must be there", NONE, x.broker(0));
        field("s1200505;b2302705", 22, 18, 2);
        due("of one thing", NONE, x.broker(0));
        field("s1200505;b1301616", 22, 18, 2);
        due("the lesser of two", 5 * 32 + 16, x.broker(0));
    }

    private void brokerAtTheEdges() {
        field("s1201100;b1300011", 22, 18, 2);
        due("on the first spot", 0, x.broker(0));
        field("s1202031;b1303120", 22, 18, 2);
        due("the lesser of two", 20 * 32 + 20, x.broker(0));
        field("s1202031;b1303120;n0002020", 22, 18, 2);
        due("on the last spot", 1023, x.broker(0));
        // five paces from 0, 32, which is no SPOT, and from 3, 23, where somebody stands
        field("s1200027;b1300328;n0000323", 10, 2, 2);
        due("not beyond the field", NONE, x.broker(0));
    }

    private void brokerThings() {
        // all about 15, 15, ten paces off: of thing 1 the best two, of thing 2 too, of thing 3 a loss
        field("s1200515;s1252515;b1401505;b1501525;s2000721;b2092309;s3502321;b3010709", 20, 10, 2);
        due("all things", 15 * 32 + 15, x.broker(0));
        due("all things", 30 + 9, x.broker(1));
    }

    private void brokerClear() {
        field("s1200505;b1302705;n0001614", 22, 18, 2);
        due("clear just so", 5 * 32 + 16, x.broker(0));
        x.step(2, 0);
        due("not clear where the broker stands", NONE, x.broker(0));
        field("s1200505;b1302705;n0000513", 22, 18, 2);
        due("another is nearer to one", NONE, x.broker(0));
        x.step(2, 4);
        due("no more", 5 * 32 + 16, x.broker(0));
        x.set(1, 23);
        due("CLEAR above DUE", NONE, x.broker(0));
        x.set(1, 0);
        x.home();
        due("CLEAR 0", 5 * 32 + 16, x.broker(0));
    }

    // ---- 26 other

    private void other() {
        fresh();
        due("other of nobody", 7, x.other(7, 9, 0));
        due("other of nobody", 0, x.other(7, 9, 1));
        field("s1200505;b1301505;b1302505;s1303505".replace("3505", "3005"), 22, 0, 2);
        due("by 20, 10, 40, 30", 10, x.other(1, 90, 0));
        due("one", 1, x.other(1, 90, 1));
        due("from 11", 20, x.other(11, 90, 0));
        due("to 9", 1, x.other(1, 9, 0));
        due("to 9", 0, x.other(1, 9, 1));
        due("one alone", 40, x.other(40, 40, 0));
        due("one alone", 1, x.other(40, 40, 1));
        due("from 41", 41, x.other(41, 90, 0));
        field("s1200505;b1300705;b1300510;b1301005", 22, 0, 2);
        due("most", 10, x.other(1, 90, 0));
        due("most", 2, x.other(1, 90, 1));
        x.set(1, 10);
        due("clear", 0, x.other(1, 90, 1));
        due("from 0", BAD, x.other(0, 5, 0));
        due("to 91", BAD, x.other(5, 91, 0));
        due("the greater first", BAD, x.other(6, 5, 0));
        due("other 2", BAD, x.other(5, 6, 2));
        due("other -1", BAD, x.other(5, 6, -1));
        due("DUE stays", 22, x.count(5));
    }

    // ---- 27, 28 sheet, lose

    private void sheet() {
        fresh();
        due("sheet", 60, x.sheet(0, 0, 60));
        due("sheet 3", 0, x.sheet(3, 2, 0));
        due("sheet 61", BAD, x.sheet(0, 0, 61));
        due("sheet 4", BAD, x.sheet(4, 0, 1));
        due("sheet -1", BAD, x.sheet(-1, 0, 1));
        due("form 3", BAD, x.sheet(0, 3, 1));
        due("form -1", BAD, x.sheet(0, -1, 1));
        due("bad ahead of size", BAD, x.sheet(0, 3, -1));
        due("no finding", 0, x.count(8));
        due("size", SIZE, x.sheet(0, 0, -1));
        due("finding", 5, x.count(8));
        due("size least", SIZE, x.sheet(0, 0, LEAST));
        due("still there", 0, x.get(0, 0, 59));
        x.put(0, 0, 3, 7);
        due("anew", 5, x.sheet(0, 0, 5));
        due("0 at first", 0, x.get(0, 0, 3));
        due("no longer", LEAST, x.get(0, 0, 5));
    }

    private void lose() {
        fresh();
        due("lose lost", NULL, x.lose(2));
        due("finding", 1, x.count(8));
        x.sheet(2, 1, 9);
        due("lose", 9, x.lose(2));
        due("lose again", NULL, x.lose(2));
        due("lose 4", BAD, x.lose(4));
        due("lose -1", BAD, x.lose(-1));
    }

    // ---- 29, 30 put, get

    private void putAndGet() {
        fresh();
        int[] values = {0, 1, -1, 127, 128, -128, -129, 255, 256, 32767, 32768, -32769, 65535, 65536, GREATEST, LEAST};
        for (int form = 0; form < 3; form++) {
            x.sheet(form, form, 60);
            for (int v : values) {
                int want = form == 0 ? (byte) v : form == 1 ? (short) v : v;
                due("put", 1, x.put(form, form, 59, v));
                due("get " + v + " of form " + form, want, x.get(form, form, 59));
                due("the next one", 0, x.get(form, form, 58));
            }
        }
    }

    private void refusalsOfPutAndGet() {
        fresh();
        x.sheet(1, 1, 4);
        int[][] calls = {{4, 1, 0, BAD}, {-1, 1, 0, BAD}, {1, 3, 0, BAD}, {1, -1, 0, BAD}, {0, 3, 0, BAD},
            {0, 0, 0, NULL}, {0, 0, -1, NULL}, {1, 0, 0, CAST}, {1, 2, 9, CAST}, {1, 1, 4, INDEX}, {1, 1, -1, INDEX}};
        for (int[] c : calls) {
            x.sheet(2, 0, -1);
            int finding = c[3] == BAD ? 5 : -10 - c[3];
            due("put", c[3], x.put(c[0], c[1], c[2], 7));
            due("its finding", finding, x.count(8));
            x.sheet(2, 0, -1);
            due("get", LEAST, x.get(c[0], c[1], c[2]));
            due("its finding", finding, x.count(8));
        }
        for (int i = 0; i < 4; i++) {
            due("nothing changed", 0, x.get(1, 1, i));
        }
    }

    // ---- 31 copy

    private void copy() {
        fresh();
        x.sheet(0, 2, 5);
        x.sheet(1, 2, 3);
        for (int i = 0; i < 5; i++) {
            x.put(0, 2, i, 10 + i);
        }
        due("copy", 1, x.copy(0, 1, 1, 0, 3));
        row(1, 11, 12, 13);
        due("copy upwards in one", 1, x.copy(0, 0, 0, 1, 4));
        row(0, 10, 10, 11, 12, 13);
        due("copy downwards in one", 1, x.copy(0, 2, 0, 0, 3));
        row(0, 11, 12, 13, 12, 13);
        due("copy back", 1, x.copy(1, 2, 0, 4, 1));
        row(0, 11, 12, 13, 12, 13);
        due("copy none at the end", 1, x.copy(0, 5, 1, 3, 0));
    }

    private void row(int s, int... items) {
        for (int i = 0; i < items.length; i++) {
            due("item " + i, items[i], x.get(s, 2, i));
        }
    }

    private void refusalsOfCopy() {
        fresh();
        x.sheet(0, 2, 5);
        x.sheet(1, 2, 3);
        x.sheet(2, 1, 3);
        due("copy 4", BAD, x.copy(4, 0, 0, 0, 0));
        due("copy to 4", BAD, x.copy(0, 0, 4, 0, 0));
        due("copy -1", BAD, x.copy(-1, 0, 3, 0, 0));
        due("no finding", 0, x.count(8));
        due("copy lost", NULL, x.copy(3, 0, 0, 0, 0));
        due("copy to lost", NULL, x.copy(2, -1, 3, 0, 0));
        due("finding", 1, x.count(8));
        due("copy unlike", STORE, x.copy(0, -1, 2, 0, 0));
        due("finding", 4, x.count(8));
        int[][] wrong = {{-1, 0, 1}, {0, -1, 1}, {0, 0, -1}, {3, 0, 3}, {0, 1, 3}, {6, 0, 0}, {0, 4, 0},
            {0, 0, 4}, {GREATEST, 0, 1}, {0, GREATEST, 1}, {1, 1, GREATEST}, {LEAST, 0, 0}, {0, 0, LEAST}};
        for (int[] w : wrong) {
            due("copy index", INDEX, x.copy(0, w[0], 1, w[1], w[2]));
            due("finding", 2, x.count(8));
        }
    }

    // ---- 32 write

    private void write() {
        fresh();
        tell(0, "n0000500;n0003131;n0000001");
        due("write lost", NULL, x.write(0));
        due("write 4", BAD, x.write(4));
        due("write -1", BAD, x.write(-1));
        x.sheet(0, 2, 4);
        x.put(0, 2, 3, 77);
        x.step(0, 4);
        due("write", 3, x.write(0));
        row(0, 37, 1023, 32, 77);
        x.sheet(1, 0, 2);
        due("write to fewer", 2, x.write(1));
        due("a byte", 37, x.get(1, 0, 0));
        due("the lowest bits with a sign", -1, x.get(1, 0, 1));
        x.sheet(1, 1, 2);
        x.write(1);
        due("a short", 1023, x.get(1, 1, 1));
        x.wipe(0);
        due("write nobody", 0, x.write(0));
    }

    // ---- 33 count

    private void count() {
        fresh();
        tell(0, "s0000000;b0000505");
        tell(1, "=01;02");
        x.post(3);
        x.set(0, 10);
        x.set(1, 11);
        x.set(2, 12);
        x.lose(0);
        int[] want = {2, 17, 6, 2, 1, 10, 11, 12, 1};
        for (int what = 0; what < want.length; what++) {
            due("count " + what, want[what], x.count(what));
        }
        due("count 9", BAD, x.count(9));
        due("count -1", BAD, x.count(-1));
    }

    // ---- 34 digest

    private long h;

    private void mix(long v) {
        h = 31 * h + v;
    }

    private long digestByCalls() {
        h = 17;
        for (int what = 0; what < 8; what++) mix(x.count(what));
        mix(x.fault(0));
        mix(x.fault(1));
        for (int p = 0; p < x.count(0); p++) {
            for (int what = 0; what < 5; what++) mix(x.person(p, what));
            mix(x.once(p));
            mix(x.ends(p));
            mix(x.hinders(p, 0));
            mix(x.hinders(p, 1));
        }
        mix(x.pairs());
        mix(x.once(NONE));
        mix(x.worth());
        for (int what = 0; what < 3; what++) mix(x.judged(what));
        mix(x.sees());
        mix(x.more(0));
        mix(x.more(1));
        mix(x.broker(0));
        mix(x.broker(1));
        mix(x.other(10, 30, 0));
        mix(x.other(10, 30, 1));
        if (x.count(0) >= 2) mix(x.comes(0, 1));
        return h;
    }

    private void digest() {
        fresh();
        due("digest of a new one", digestByCalls(), x.digest());
        tell(0, "s1200505");
        due("digest of one", digestByCalls(), x.digest());
        field("s1200505;b1301605;b1400516;s1301616;n0002705", 22, 0, 2);
        tell(1, "=01;42;=23;=01");
        x.post(0);
        x.post(11);
        due("digest", digestByCalls(), x.digest());
        x.step(4, 3);
        due("digest behind a step", digestByCalls(), x.digest());
        x.set(1, 18);
        due("digest by CLEAR", digestByCalls(), x.digest());
        long before = x.digest();
        x.lose(3);
        due("findings are not in it", before, x.digest());
    }
}
