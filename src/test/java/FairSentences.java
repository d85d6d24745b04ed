/** FAIRS: Terms, part 2, and the promises 15 and 16. */
final class FairSentences extends Ground {
    private static final String FOUR = "s1200500;b1301600;b1500511;s1401611";

    FairSentences(Book book) {
        super(book);
    }

    @Override
    void run() {
        upTo60();
        steps();
        dones();
        likewise();
        whomThereIsNot();
        asIfEmpty();
        stepMustBeLawful();
        doneMustBind();
        noneTwice();
        firstThatDoesNotHold();
        aheadOfIt();
        changesNothing();
        judged();
        ends();
    }

    private void upTo60() {
        says(TERMS, "A FAIR (text 1) is told in a text of up to 60 bytes");
        for (int i = 1; i <= 60; i++) {
            due("type() of byte " + i, i, x.type(1, '='));
        }
        due("type() of byte 61", FULL, x.type(1, '='));
        due("count(2)", 60, x.count(2));
        due("wipe(1)", 60, x.wipe(1));
        due("type() behind it", 1, x.type(1, '='));
    }

    private void bytesBehind(String people, String before, String allowed, int ifAllowed, int ifNot) {
        for (int b = 0; b < 256; b++) {
            fresh();
            tell(0, people);
            tell(1, before);
            x.type(1, b);
            boolean isAllowed = allowed.indexOf((char) b) >= 0;
            due("fault(1) of '" + before + "' and byte " + b, isAllowed ? ifAllowed : ifNot, x.fault(1));
        }
    }

    private void steps() {
        says(TERMS, "parts with ; between them: the figure of one and a DIRECTION (0 to 7): a STEP");
        bytesBehind(FOUR, "", "0123=", 1, 0);
        bytesBehind(FOUR, "3", "01234567", NONE, 1);
        bytesBehind(FOUR, "37", ";", 3, 2);
        bytesBehind(FOUR, "37;", "0123=", 4, 3);
        bytesBehind(NINE + ";n0000900", "", "0123456789=", 1, 0);
    }

    private void dones() {
        says(TERMS, "or =, and the figures of two (not one): DONE.");
        bytesBehind(FOUR, "=", "0123", 2, 1);
        bytesBehind(FOUR, "=0", "123", NONE, 2);
        bytesBehind(FOUR, "=2", "013", NONE, 2);
        bytesBehind(FOUR, "=32", ";", 4, 3);
        bytesBehind(NINE + ";n0000900", "=9", "012345678", NONE, 2);
        bytesBehind("n0000000", "=0", "", NONE, 2);
    }

    private void likewise() {
        says(TERMS, "The FAULT likewise");
        due("fault(1) of an empty text", NONE, x.fault(1));
        tell(0, FOUR);
        String fair = "=01;24;=32";
        int[] want = {1, 2, NONE, 4, 5, NONE, 7, 8, 9, NONE};
        for (int i = 0; i < fair.length(); i++) {
            x.type(1, fair.charAt(i));
            due("fault(1) of " + (i + 1) + " bytes", want[i], x.fault(1));
        }
        due("count(3)", 3, x.count(3));
        x.type(1, '=');
        due("fault(1), no ; between", 10, x.fault(1));
        x.type(1, ';');
        due("fault(1), the first one", 10, x.fault(1));
        tell(1, "00;;00");
        due("fault(1) of an empty part", 3, x.fault(1));
        StringBuilder twenty = new StringBuilder("04");
        for (int part = 1; part < 20; part++) {
            twenty.append(";00");
        }
        tell(1, twenty.toString());
        due("fault(1) of twenty parts", NONE, x.fault(1));
        due("count(3) of twenty parts", 20, x.count(3));
        due("type() of the 60th byte", 60, x.type(1, ';'));
        due("fault(1), not ended and full", 60, x.fault(1));
        String fifteen = "=01;=01;=01;=01;=01;=01;=01;=01;=01;=01;=01;=01;=01;=01;=01";
        tell(1, fifteen);
        due("fault(1) of fifteen DONE", NONE, x.fault(1));
        due("count(3) of fifteen DONE", 15, x.count(3));
        tell(1, fifteen + ";");
        due("fault(1), not ended and full", 60, x.fault(1));
        tell(1, fifteen.substring(4) + ";04;=");
        due("fault(1) of a last =, full", 60, x.fault(1));
        tell(1, fifteen.substring(4) + ";04;0");
        due("fault(1) of a last figure, full", 60, x.fault(1));
        tell(1, fifteen.substring(4) + ";=01x");
        due("fault(1) of a last byte that is wrong, full", 59, x.fault(1));
    }

    private void whomThereIsNot() {
        says(TERMS, "(also a figure of one whom there is not)");
        tell(1, "00");
        due("fault(1) of nobody", 0, x.fault(1));
        tell(1, "=01");
        due("fault(1) of nobody", 1, x.fault(1));
        tell(0, "n0000000");
        due("fault(1) of one", 2, x.fault(1));
        tell(0, "n0000000;n0000500");
        due("fault(1) of two", NONE, x.fault(1));
        due("count(3)", 1, x.count(3));
        x.type(0, ';');
        due("fault(1) behind a FAULT of PEOPLE", 1, x.fault(1));
        due("count(3)", 0, x.count(3));
        tell(0, "n0000000;n0000500");
        due("fault(1) of two again", NONE, x.fault(1));
        tell(1, "=01;20");
        due("fault(1) of a third", 4, x.fault(1));
        x.wipe(0);
        due("fault(1) when all are wiped", 1, x.fault(1));
    }

    private void asIfEmpty() {
        says(TERMS, "With a FAULT it is as if it was empty.");
        field(FOUR, 22, 0, 2);
        tell(1, "=01;04");
        due("count(3)", 2, x.count(3));
        due("judged(1)", 1, x.judged(1));
        x.type(1, ';');
        due("count(3) with a FAULT", 0, x.count(3));
        due("judged(0) with a FAULT", NONE, x.judged(0));
        due("judged(1) with a FAULT", 0, x.judged(1));
        due("judged(2) with a FAULT", 0, x.judged(2));
        due("ends(0) with a FAULT", at(5, 0), x.ends(0));
    }

    private void stepMustBeLawful() {
        says(TERMS, "JUDGED, from where all stand, part by part: a STEP must be LAWFUL");
        field("n0000000;n0000200", 22, 0, 2);
        tell(1, "00");
        due("judged(0), off the field", 0, x.judged(0));
        tell(1, "02;02");
        due("judged(0), upon another one", 1, x.judged(0));
        due("ends(0)", at(1, 0), x.ends(0));
        tell(1, "02;14;02");
        due("judged(0), another one went ahead", NONE, x.judged(0));
        due("ends(0)", at(2, 0), x.ends(0));
        due("ends(1)", at(2, 1), x.ends(1));
        x.set(2, 5);
        due("judged(0) by NEAR 5", 0, x.judged(0));
        x.set(2, 2);
        tell(1, "02");
        x.step(0, 2);
        due("judged(0) from where all stand", 0, x.judged(0));
    }

    private void doneMustBind() {
        says(TERMS, "at a DONE it must BIND");
        field(FOUR, 22, 0, 2);
        tell(1, "=03");
        due("judged(0), not DUE away", 0, x.judged(0));
        tell(1, "=01");
        due("judged(0), just DUE away", NONE, x.judged(0));
        tell(1, "06;=01");
        due("judged(0), one pace too far", 1, x.judged(0));
        tell(1, "06;16;=01");
        due("judged(0), both went", NONE, x.judged(0));
        x.set(1, 22);
        tell(1, "=01");
        due("judged(0), all just CLEAR", NONE, x.judged(0));
        x.set(1, 23);
        due("judged(0), others are nearer than CLEAR", 0, x.judged(0));
        field("s1310500;b1301600", 22, 0, 2);
        tell(1, "=01");
        due("judged(0), a PRICE too low", 0, x.judged(0));
        due("judged(1)", 0, x.judged(1));
        field("n0000501;" + "s1200500;b1301600", 22, 4, 2);
        tell(1, "=12;04;=12");
        due("judged(0), one is in the way", 0, x.judged(0));
        tell(1, "04;=12");
        due("judged(0), and goes out of it", NONE, x.judged(0));
    }

    private void noneTwice() {
        says(TERMS, "and none of the two may have DONE one before.");
        field(FOUR, 22, 0, 2);
        String[] fairs = {"=01;=01", "=01;=10", "=01;=02", "=01;=20", "=23;=02", "=23;=20", "=02;=01",
            "=10;=02", "=10;=20", "=32;=02", "=32;=20", "=20;=01", "=20;=10", "=02;=23", "=02;=32"};
        for (String fair : fairs) {
            tell(1, fair);
            due("judged(0) of " + fair, 1, x.judged(0));
            due("judged(1) of " + fair, 1, x.judged(1));
        }
        tell(1, "=01;=23");
        due("judged(0) of four others", NONE, x.judged(0));
        due("judged(1) of four others", 2, x.judged(1));
        tell(1, "=01;04;14");
        due("judged(0): who has DONE may step", NONE, x.judged(0));
        due("judged(0) again: as new", NONE, x.judged(0));
    }

    private void firstThatDoesNotHold() {
        says(TERMS, "The first part (0 on) that does not hold; NONE");
        field(FOUR, 22, 0, 2);
        due("judged(0) of an empty FAIR", NONE, x.judged(0));
        tell(1, "00;00;=03");
        due("judged(0) of none that holds", 0, x.judged(0));
        StringBuilder fair = new StringBuilder();
        for (int part = 0; part < 19; part++) {
            fair.append(part % 2 == 0 ? "04;" : "00;");
        }
        tell(1, fair + "04");
        due("judged(0) of twenty, the last not off the field", NONE, x.judged(0));
        due("ends(0)", at(5, 2), x.ends(0));
        tell(1, fair + "10");
        due("judged(0), the last of twenty", 19, x.judged(0));
        due("ends(0)", at(5, 1), x.ends(0));
    }

    private void aheadOfIt() {
        says(TERMS, "how many DONE there were ahead of it, their WORTH together; where one is then.");
        field(FOUR, 22, 0, 2);
        tell(1, "=01;00;=23;34");
        due("judged(0)", 1, x.judged(0));
        due("judged(1), not those behind it", 1, x.judged(1));
        due("judged(2), not those behind it", 10, x.judged(2));
        due("ends(3), no step behind it", at(16, 11), x.ends(3));
        tell(1, "=01;=23;34;=01");
        due("judged(0)", 3, x.judged(0));
        due("judged(1)", 2, x.judged(1));
        due("judged(2)", 20, x.judged(2));
        due("ends(3), the step ahead of it", at(16, 12), x.ends(3));
        tell(1, "=03;=01");
        due("judged(1) of none ahead", 0, x.judged(1));
        due("judged(2) of none ahead", 0, x.judged(2));
    }

    private void changesNothing() {
        says(TERMS, "It changes nothing.");
        field(FOUR, 22, 0, 2);
        tell(1, "04;14;=01");
        long before = x.digest();
        due("judged(1)", 1, x.judged(1));
        due("ends(0)", at(5, 1), x.ends(0));
        due("stands where it stood", at(5, 0), spot(0));
        due("home()", 0, x.home());
        due("once(0), DONE or not", 1, x.once(0));
        due("judged(1) again", 1, x.judged(1));
        due("digest()", before, x.digest());
    }

    private void judged() {
        says(15, "JUDGED: the part (what = 0; NONE), how many DONE (1), their WORTH (2). BAD.");
        due("judged(0) of nobody", NONE, x.judged(0));
        due("judged(1) of nobody", 0, x.judged(1));
        due("judged(2) of nobody", 0, x.judged(2));
        field(FOUR, 22, 0, 2);
        tell(1, "=01;=03");
        due("judged(0)", 1, x.judged(0));
        due("judged(1)", 1, x.judged(1));
        due("judged(2)", 10, x.judged(2));
        for (int what : outside(0, 2)) {
            due("judged(" + what + ")", BAD, x.judged(what));
        }
        field("s1200500;b1201600", 22, 0, 2);
        tell(1, "=01");
        due("judged(1) of a DONE worth 0", 1, x.judged(1));
        due("judged(2) of a DONE worth 0", 0, x.judged(2));
    }

    private void ends() {
        says(16, "The SPOT of one behind that. BAD.");
        due("ends(0) of nobody", BAD, x.ends(0));
        tell(0, "n0003131;n0000000");
        due("ends(0) without a FAIR", 1023, x.ends(0));
        due("ends(1) without a FAIR", 0, x.ends(1));
        tell(1, "00;13;13");
        due("ends(0)", 991, x.ends(0));
        due("ends(1)", at(2, 2), x.ends(1));
        x.step(0, 6);
        due("ends(0) from where it stands", 990, x.ends(0));
        for (int p : outside(0, 1)) {
            due("ends(" + p + ")", BAD, x.ends(p));
        }
    }
}
