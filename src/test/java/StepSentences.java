/** COMES and HINDERS: Terms, part 3, and the promises 17 to 19. */
final class StepSentences extends Ground {
    StepSentences(Book book) {
        super(book);
    }

    @Override
    void run() {
        fewest();
        othersStandStill();
        eachLawful();
        behindWhichItBinds();
        atOnce();
        never();
        leastRow();
        comes();
        way();
        hinders();
        lost();
        hindersRefuses();
    }

    private void wayIs(int... row) {
        for (int i = 0; i < row.length; i++) {
            due("way(0, 1, " + i + ")", row[i], x.way(0, 1, i));
        }
        due("way(0, 1, " + row.length + ")", NONE, x.way(0, 1, row.length));
    }

    private void fewest() {
        says(TERMS, "COMES: the fewest STEPS of one");
        field("s1200505;b1301705", 22, 18, 2);
        due("comes(0, 1), one", 1, x.comes(0, 1));
        field("s1200000;b1303131", 2, 0, 2);
        due("comes(0, 1), across the field", 31, x.comes(0, 1));
        field("s1200000;b1303100", 2, 0, 2);
        due("comes(0, 1), along its edge", 30, x.comes(0, 1));
        field("s1200505;b1300605", 22, 0, 2);
        due("comes(0, 1), away from the other one", 11, x.comes(0, 1));
        field("s1200028;b1300031", 2, 0, 2);
        due("comes(0, 1), not beyond the field", 2, x.comes(0, 1));
        field("s1200300;b1300000", 2, 0, 2);
        due("comes(0, 1), not ahead of the field", 2, x.comes(0, 1));
    }

    private void othersStandStill() {
        says(TERMS, "all others standing still");
        // one in the corner can't leave it by NEAR 5, the other one can
        field("s1200000;b1301000;n0000202;n0000002", 18, 0, 5);
        due("comes(0, 1)", NONE, x.comes(0, 1));
        due("comes(1, 0)", 1, x.comes(1, 0));
        due("and all stand where they stood", at(10, 0), spot(1));
        due("home()", 0, x.home());
        field("s1200505;b1301605;n0001604", 22, 18, 2);
        due("comes(0, 1), one stays in the way of the other one", NONE, x.comes(0, 1));
    }

    private void eachLawful() {
        says(TERMS, "each LAWFUL");
        // a wall from the north edge to row 10, through which one gets by NEAR 2, and not by NEAR 4
        String wall = "s1200500;b1302200;n0001001;n0001004;n0001007;n0001010";
        field(wall, 20, 0, 2);
        due("comes(0, 1) by NEAR 2", 7, x.comes(0, 1));
        field(wall, 20, 0, 4);
        due("comes(0, 1) by NEAR 4", 19, x.comes(0, 1));
        for (int left = 19; left > 0; left--) {
            due("step(0, way(0, 1, 0))", 1, x.step(0, x.way(0, 1, 0)));
            due("comes(0, 1) then", left - 1, x.comes(0, 1));
        }
        due("binds(0, 1, 0)", 0, x.binds(0, 1, 0));
        field("s1200500;b1301700", 22, 18, 22);
        due("comes(0, 1) to just NEAR", 1, x.comes(0, 1));
        x.set(2, 23);
        due("comes(0, 1) to nearer than NEAR", NONE, x.comes(0, 1));
        // on one SPOT with a third: out of it one may, and the place where one began is no STEP's end
        field("s1200500;b1301700;n0000500", 22, 0, 2);
        due("comes(0, 1) out of one SPOT", 1, x.comes(0, 1));
        field("s1200600;b1301800;n0000700", 22, 0, 2);
        due("comes(0, 1), another one stands where it would be", 12, x.comes(0, 1));
        x.set(2, 0);
        due("comes(0, 1) upon that one by NEAR 0", 1, x.comes(0, 1));
    }

    private void behindWhichItBinds() {
        says(TERMS, "behind which it BINDS with another one");
        // just DUE away in one step, but there a third is nearer than CLEAR
        field("s1200500;b1301700;n0000603", 22, 6, 2);
        due("comes(0, 1), a third just CLEAR", 1, x.comes(0, 1));
        x.set(1, 7);
        due("comes(0, 1), a third nearer than CLEAR", 12, x.comes(0, 1));
        field("s1200500;b1301700;n0000603;n0001703", 22, 7, 2);
        due("comes(0, 1), one is nearer to the other one, wherever", NONE, x.comes(0, 1));
        field("s1300500;b1301700", 22, 18, 2);
        due("comes(0, 1) at one PRICE", 1, x.comes(0, 1));
    }

    private void atOnce() {
        says(TERMS, "(0: at once)");
        field(TWO, 22, 18, 2);
        due("comes(0, 1)", 0, x.comes(0, 1));
        due("comes(1, 0)", 0, x.comes(1, 0));
        due("way(0, 1, 0)", NONE, x.way(0, 1, 0));
        x.set(2, 40);
        due("comes(0, 1), nearer than NEAR", 0, x.comes(0, 1));
        field(TWO + ";n0000505", 22, 0, 2);
        due("comes(0, 1), on one SPOT with a third", 0, x.comes(0, 1));
    }

    private void never() {
        says(TERMS, "NONE; the least row of DIRECTIONS");
        String[] people = {"s1310505;b1301605", "s1200505;s1301605", "b1200505;b1301605", "n1200505;b1301605", "s1200505;b2301605"};
        for (String p : people) {
            field(p, 22, 18, 2);
            due("comes(0, 1) of " + p, NONE, x.comes(0, 1));
            due("way(0, 1, 0) of " + p, NONE, x.way(0, 1, 0));
        }
        for (int due : new int[] {1, 21, 89, 90}) {
            field(TWO, due, 18, 2);
            due("comes(0, 1) by DUE " + due, NONE, x.comes(0, 1));
        }
        field("s1200505;b1301515", 86, 18, 2);
        due("comes(0, 1), nowhere on the field is so far away", NONE, x.comes(0, 1));
        field("s1200505;b1301705;n0003131", 22, 90, 2);
        due("comes(0, 1), a third is always nearer than 90", NONE, x.comes(0, 1));
    }

    private void leastRow() {
        says(TERMS, "the least row of DIRECTIONS of these: the i-th.");
        field("s1201021;b1301008", 22, 0, 2);
        wayIs(0, 0);
        field("s1201022;b1301108", 22, 0, 2);
        wayIs(0, 0, 1);
        field("s1201000;b1301010", 10, 0, 2);
        wayIs(3, 3, 4, 5, 5);
        field("s1200005;b1301605", 22, 0, 2);
        wayIs(1, 1, 2, 3, 3);
        field("s1200000;b1301600", 22, 0, 2);
        wayIs(2, 2, 2, 2, 2);
        field("s1200001;b1301601", 22, 0, 2);
        wayIs(1, 2, 2, 2, 3);
        field("s1202131;b1300531", 22, 0, 2);
        wayIs(6, 6, 6, 6, 6);
        field("s1202130;b1300530", 22, 0, 2);
        wayIs(5, 6, 6, 6, 7);
        // of two SPOTS equally far the one with the lesser row, though its number is greater
        field("s1201410;b1301014", 10, 0, 2);
        wayIs(4);
        field("s1200302;b1301100", 22, 0, 2);
        wayIs(6, 7, 7);
        field("s1202929;b1302031", 22, 0, 2);
        wayIs(3, 3);
        // another one stands on the least row
        field("s1200005;b1301605;n0000104", 22, 0, 2);
        wayIs(2, 1, 1, 3, 3);
    }

    private void comes() {
        says(17, "COMES; NONE. BAD: also one with oneself.");
        due("comes(0, 1) of nobody", BAD, x.comes(0, 1));
        field("s1200505;b1301705", 22, 18, 2);
        due("comes(0, 1)", 1, x.comes(0, 1));
        due("comes(0, 0)", BAD, x.comes(0, 0));
        due("comes(1, 1)", BAD, x.comes(1, 1));
        for (int p : outside(0, 1)) {
            due("comes(0, " + p + ")", BAD, x.comes(0, p));
            due("comes(" + p + ", 0)", BAD, x.comes(p, 0));
            due("comes(" + p + ", " + p + ")", BAD, x.comes(p, p));
        }
        x.set(0, 21);
        due("comes(0, 1) by 21", NONE, x.comes(0, 1));
        due("comes(0, 0) by 21", BAD, x.comes(0, 0));
    }

    private void way() {
        says(18, "The i-th DIRECTION (0 on; NONE beyond, or where it never comes). BAD.");
        due("way(0, 1, 0) of nobody", BAD, x.way(0, 1, 0));
        field("s1200000;b1303131", 2, 0, 2);
        due("way(0, 1, 0)", 2, x.way(0, 1, 0));
        for (int i = 1; i < 31; i++) {
            due("way(0, 1, " + i + ")", 3, x.way(0, 1, i));
        }
        due("way(0, 1, 31), beyond", NONE, x.way(0, 1, 31));
        due("way(0, 1, 1024), beyond", NONE, x.way(0, 1, 1024));
        due("way(0, 1, the greatest), beyond", NONE, x.way(0, 1, GREATEST));
        due("way(0, 1, -1)", BAD, x.way(0, 1, -1));
        due("way(0, 1, the least)", BAD, x.way(0, 1, LEAST));
        due("way(0, 0, 0)", BAD, x.way(0, 0, 0));
        for (int p : outside(0, 1)) {
            due("way(0, " + p + ", 0)", BAD, x.way(0, p, 0));
            due("way(" + p + ", 1, 0)", BAD, x.way(p, 1, 0));
        }
        due("stands where it stood", 0, spot(0));
        x.set(0, 3);
        due("way(0, 1, 0) where it never comes", NONE, x.way(0, 1, 0));
        due("way(0, 1, 30) where it never comes", NONE, x.way(0, 1, 30));
        due("way(0, 1, -1) where it never comes", BAD, x.way(0, 1, -1));
    }

    private void hinders() {
        says(TERMS, "HINDERS: how many pairs of others BIND, were this one away, that do not now");
        field(TWO + ";n0000506", 22, 18, 2);
        due("hinders(2, 0)", 1, x.hinders(2, 0));
        due("hinders(0, 0), one of the pair", 0, x.hinders(0, 0));
        due("hinders(1, 0), one of the pair", 0, x.hinders(1, 0));
        field(TWO + ";n0000514", 22, 18, 2);
        due("hinders(2, 0), just CLEAR: it binds now, too", 0, x.hinders(2, 0));
        x.set(1, 19);
        due("hinders(2, 0), nearer by one half", 1, x.hinders(2, 0));
        field(TWO + ";n0000506;n0000505", 22, 18, 2);
        due("hinders(2, 0), a fourth is in the way as well", 0, x.hinders(2, 0));
        due("hinders(3, 0), a fourth is in the way as well", 0, x.hinders(3, 0));
        field("s1310505;b1301605;n0000506", 22, 18, 2);
        due("hinders(2, 0), it would not bind", 0, x.hinders(2, 0));
        field("s1200505;b1301705;n0000506", 22, 18, 2);
        due("hinders(2, 0), they are not DUE away", 0, x.hinders(2, 0));
        field("n0001111;s1200000;b1301100;s2200011;b2302211", 22, 22, 2);
        due("hinders(0, 0), each just CLEAR", 0, x.hinders(0, 0));
        field("n0001010;s1200505;b1301605;s0000515;b0051615", 22, 15, 2);
        due("hinders(0, 0), two pairs", 2, x.hinders(0, 0));
        x.step(0, 0);
        due("hinders(0, 0), now one alone", 1, x.hinders(0, 0));
    }

    private void lost() {
        says(TERMS, "LOST: their WORTH together.");
        field("n0001010;s1200505;b1301605;s0000515;b0051615", 22, 15, 2);
        due("hinders(0, 1)", 15, x.hinders(0, 1));
        field("s1000505;b1991605;n0000506", 22, 18, 2);
        due("hinders(2, 1) of 0 and 99", 99, x.hinders(2, 1));
        due("hinders(0, 1) of one of them", 0, x.hinders(0, 1));
        field("s1300505;b1301605;n0000506", 22, 18, 2);
        due("hinders(2, 1) of one PRICE", 0, x.hinders(2, 1));
        due("hinders(2, 0) of one PRICE", 1, x.hinders(2, 0));
        field("b1300505;s1201605;n0000506", 22, 18, 2);
        due("hinders(2, 1), who buys is told first", 10, x.hinders(2, 1));
    }

    private void hindersRefuses() {
        says(19, "HINDERS (what = 0), LOST (1). BAD.");
        due("hinders(0, 0) of nobody", BAD, x.hinders(0, 0));
        field("n0000506", 22, 18, 2);
        due("hinders(0, 0) of one alone", 0, x.hinders(0, 0));
        due("hinders(0, 1) of one alone", 0, x.hinders(0, 1));
        for (int p : outside(0, 0)) {
            due("hinders(" + p + ", 0)", BAD, x.hinders(p, 0));
        }
        for (int what : outside(0, 1)) {
            due("hinders(0, " + what + ")", BAD, x.hinders(0, what));
        }
    }
}
