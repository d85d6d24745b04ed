/** PEOPLE as a text: Terms, part 1, and the promises 2 to 4. */
final class TextSentences extends Ground {
    private static final String FIGURES = "0123456789";

    TextSentences(Book book) {
        super(book);
    }

    @Override
    void run() {
        upTo90();
        tenAtMost();
        letters();
        things();
        numbers();
        between();
        firstByte();
        emptyAndNotEnded();
        firstFigure();
        eleventh();
        asIfEmpty();
        bytesPutAllBack();
        type();
        wipe();
        fault();
    }

    private void upTo90() {
        says(TERMS, "PEOPLE (text 0) are told in a text of up to 90 bytes");
        for (int i = 1; i <= 90; i++) {
            due("type() of byte " + i, i, x.type(0, 'n'));
        }
        due("type() of byte 91", FULL, x.type(0, 'n'));
        due("type() of byte 91 again", FULL, x.type(0, ';'));
        due("count(1)", 90, x.count(1));
        due("wipe(0)", 90, x.wipe(0));
        due("type() behind it", 1, x.type(0, 'n'));
    }

    private void tenAtMost() {
        says(TERMS, "parts with ; between them, 10 at most (0 on)");
        tell(0, NINE);
        due("nine", 9, x.count(0));
        due("no tenth", BAD, x.person(9, 3));
        tell(0, NINE + ";b3993131");
        due("ten", 10, x.count(0));
        due("bytes of ten", 89, x.count(1));
        due("well", NONE, x.fault(0));
        due("number 0", 0, x.person(0, 3));
        due("number 9", 31, x.person(9, 3));
        due("number 10", BAD, x.person(10, 3));
    }

    /** Of all 256 bytes behind a text: those allowed have one FAULT, the others another one. */
    private void bytesBehind(String before, String allowed, int ifAllowed, int ifNot) {
        for (int b = 0; b < 256; b++) {
            fresh();
            tell(0, before);
            x.type(0, b);
            boolean isAllowed = allowed.indexOf((char) b) >= 0;
            due("fault(0) of '" + before + "' and byte " + b, isAllowed ? ifAllowed : ifNot, x.fault(0));
        }
    }

    private void letters() {
        says(TERMS, "s (sells), b (buys) or n (neither)");
        bytesBehind("", "sbn", 1, 0);
        bytesBehind("s0000000;", "sbn", 10, 9);
    }

    private void things() {
        says(TERMS, "the figure of a THING (0 to 3)");
        bytesBehind("s", "0123", 2, 1);
        bytesBehind("n0000000;b", "0123", 11, 10);
    }

    private void numbers() {
        says(TERMS, "a PRICE, an X, a Y (two figures each; X and Y 00 to 31)");
        bytesBehind("s0", FIGURES, 3, 2);
        bytesBehind("s09", FIGURES, 4, 3);
        bytesBehind("s099", FIGURES, 5, 4);
        bytesBehind("s0990", FIGURES, 6, 5);
        bytesBehind("s09931", FIGURES, 7, 6);
        bytesBehind("s099310", FIGURES, NONE, 7);
        fresh();
        for (int number = 0; number < 100; number++) {
            tell(0, "b0" + two(number) + "0000");
            due("PRICE " + number, number, x.person(0, 2));
            fresh();
            tell(0, "b000" + two(number) + "00");
            due("fault of X " + number, number <= 31 ? NONE : 4, x.fault(0));
            due("X " + number, number <= 31 ? number : BAD, x.person(0, 3));
            tell(0, "b00000" + two(number));
            due("fault of Y " + number, number <= 31 ? NONE : 6, x.fault(0));
            due("Y " + number, number <= 31 ? number : BAD, x.person(0, 4));
        }
    }

    private void between() {
        says(TERMS, "parts with ; between them");
        bytesBehind("s0993131", ";", 9, 8);
        tell(0, ";");
        due("fault of one ahead", 0, x.fault(0));
        tell(0, "s0993131;;");
        due("fault of two", 9, x.fault(0));
    }

    private void firstByte() {
        says(TERMS, "The FAULT is the place of the first byte with which it cannot go on");
        tell(0, "xx");
        due("fault of xx", 0, x.fault(0));
        tell(0, "s4x99");
        due("fault of s4x99", 1, x.fault(0));
        tell(0, "s0000000;b0990101;n0000000x");
        due("fault behind three", 26, x.fault(0));
        x.type(0, 's');
        x.type(0, ';');
        due("it stays with more bytes", 26, x.fault(0));
        tell(0, "s000320x");
        due("a number ahead of a wrong byte", 4, x.fault(0));
        tell(0, "s00x3200");
        due("a wrong byte ahead of a number", 3, x.fault(0));
    }

    private void emptyAndNotEnded() {
        says(TERMS, "(an empty text is well; of one that is not ended, its end)");
        due("fault(0) of an empty text", NONE, x.fault(0));
        String three = "s0000000;b3993131;n1501515";
        for (int i = 0; i < three.length(); i++) {
            x.type(0, three.charAt(i));
            boolean isEnded = i % 9 == 7;
            due("fault(0) of " + (i + 1) + " bytes", isEnded ? NONE : i + 1, x.fault(0));
            due("count(0) of " + (i + 1) + " bytes", isEnded ? i / 9 + 1 : 0, x.count(0));
        }
        x.wipe(0);
        due("fault(0) of a wiped text", NONE, x.fault(0));
    }

    private void firstFigure() {
        says(TERMS, "of the first figure of a number (looked at when both its figures are there) that may not be");
        faultIs("s0009", 5);
        faultIs("s00099", 4);
        faultIs("s0009x", 5);
        faultIs("s0009;", 5);
        faultIs("s00032", 4);
        faultIs("s00031", 6);
        faultIs("s000319", 7);
        faultIs("s0003199", 6);
        faultIs("s0003132", 6);
        faultIs("s000319x", 7);
        faultIs("s0003131;b99", 10);
        faultIs("s0003131;b09932", 13);
        faultIs("s0003131;b0990032", 15);
        faultIs("s0003232", 4);
    }

    private void faultIs(String s, int want) {
        tell(0, s);
        due("fault(0) of " + s, want, x.fault(0));
    }

    private void eleventh() {
        says(TERMS, "or of the first byte of an eleventh.");
        tell(0, NINE + ";b3993131");
        due("fault(0) of ten", NONE, x.fault(0));
        due("type() of a ; behind ten", 90, x.type(0, ';'));
        due("fault(0): where an eleventh would begin", 90, x.fault(0));
        due("count(0)", 0, x.count(0));
        due("type() of an eleventh", FULL, x.type(0, 's'));
        due("fault(0)", 90, x.fault(0));
        tell(0, NINE + ";b3993131s");
        due("fault(0) without the ;", 89, x.fault(0));
    }

    private void asIfEmpty() {
        says(TERMS, "With a FAULT it is as if it was empty.");
        tell(0, TWO);
        due("pairs() of two", 1, x.pairs());
        x.sheet(0, INTS, 2);
        x.type(0, ';');
        due("count(0)", 0, x.count(0));
        due("count(1) tells its bytes", 18, x.count(1));
        due("person(0, 0)", BAD, x.person(0, 0));
        due("step(0, 0)", BAD, x.step(0, 0));
        due("away(0, 1)", BAD, x.away(0, 1));
        due("binds(0, 1, 0)", BAD, x.binds(0, 1, 0));
        due("once(0)", BAD, x.once(0));
        due("once(NONE)", 0, x.once(NONE));
        due("worth()", 0, x.worth());
        due("pairs()", 0, x.pairs());
        due("home()", 0, x.home());
        due("write(0)", 0, x.write(0));
        due("broker(0)", NONE, x.broker(0));
        due("other(22, 22, 1)", 0, x.other(22, 22, 1));
        due("ends(0)", BAD, x.ends(0));
        due("comes(0, 1)", BAD, x.comes(0, 1));
        due("hinders(0, 0)", BAD, x.hinders(0, 0));
        due("read(0, 0)", BAD, x.read(0, 0));
    }

    private void bytesPutAllBack() {
        says(TERMS, "Whenever a byte of it is told, or it is wiped, all stand on their SPOTS of the text again.");
        tell(0, TWO);
        x.step(0, 4);
        x.step(1, 4);
        String more = ";n0003131";
        for (int i = 0; i < more.length(); i++) {
            x.type(0, more.charAt(i));
        }
        due("stands", at(5, 5), spot(0));
        due("stands", at(16, 5), spot(1));
        due("home()", 0, x.home());
        x.step(0, 4);
        due("type() of a byte of the FAIR", 1, x.type(1, '0'));
        due("stands where it was", at(5, 6), spot(0));
        due("wipe() of the FAIR", 1, x.wipe(1));
        due("stands where it was", at(5, 6), spot(0));
        due("type() that is BAD", BAD, x.type(0, 256));
        due("stands where it was", at(5, 6), spot(0));
        tell(0, TWO);
        due("wiped and told again, it stands", at(5, 5), spot(0));
        due("home()", 0, x.home());
    }

    private void type() {
        says(2, "A byte (0 to 255) comes behind a text: how many.");
        due("type(0, 0)", 1, x.type(0, 0));
        due("type(0, 255)", 2, x.type(0, 255));
        due("type(1, 255), the other text", 1, x.type(1, 255));
        due("type(1, 0)", 2, x.type(1, 0));
        due("type(0, 128)", 3, x.type(0, 128));
        due("count(1)", 3, x.count(1));
        due("count(2)", 2, x.count(2));

        says(2, "BAD; FULL.");
        for (int b : outside(0, 255)) {
            due("type(0, " + b + ")", BAD, x.type(0, b));
            due("type(1, " + b + ")", BAD, x.type(1, b));
        }
        for (int text : outside(0, 1)) {
            due("type(" + text + ", 48)", BAD, x.type(text, 48));
        }
        for (int i = 0; i < 90; i++) {
            x.type(0, 's');
            x.type(1, '0');
        }
        due("type(0, 0) behind 90", FULL, x.type(0, 0));
        due("type(1, 0) behind 60", FULL, x.type(1, 0));
        due("type(0, 256) behind 90", BAD, x.type(0, 256));
        due("type(1, -1) behind 60", BAD, x.type(1, -1));
        due("type(2, 0)", BAD, x.type(2, 0));
    }

    private void wipe() {
        says(3, "A text is empty: how many bytes it had.");
        due("wipe(0) of an empty text", 0, x.wipe(0));
        due("wipe(1) of an empty text", 0, x.wipe(1));
        tell(0, TWO);
        tell(1, "=01");
        due("wipe(0)", 17, x.wipe(0));
        due("count(0)", 0, x.count(0));
        due("count(1)", 0, x.count(1));
        due("count(2), the other text", 3, x.count(2));
        due("wipe(0) again", 0, x.wipe(0));
        due("wipe(1)", 3, x.wipe(1));
        due("count(2)", 0, x.count(2));
        tell(0, "xxxx");
        due("wipe(0) of one with a FAULT", 4, x.wipe(0));
        due("fault(0)", NONE, x.fault(0));
        wipedIsGone();

        says(3, "BAD.");
        tell(0, TWO);
        for (int text : outside(0, 1)) {
            due("wipe(" + text + ")", BAD, x.wipe(text));
        }
        due("count(1)", 17, x.count(1));
    }

    /** Nothing of what was told before a text was wiped is looked at behind that. */
    private void wipedIsGone() {
        tell(0, TWO);
        tell(1, "=01;04");
        due("judged(1) of a FAIR", 1, x.judged(1));
        due("wipe(1) of a FAIR that is well", 6, x.wipe(1));
        due("count(3)", 0, x.count(3));
        due("judged(0)", NONE, x.judged(0));
        due("judged(1)", 0, x.judged(1));
        due("ends(0)", at(5, 5), x.ends(0));
        String[] ends = {"=", "=0", "=01;", "0", "00;", "00;1"};
        for (String s : ends) {
            fresh();
            tell(0, TWO);
            tell(1, "=01;04;=10;13");
            tell(1, s);
            due("fault(1) of " + s + " behind a longer text", s.length(), x.fault(1));
        }
        for (int length = 1; length < TWO.length(); length++) {
            fresh();
            tell(0, TWO);
            tell(0, TWO.substring(0, length));
            due("fault(0) of " + length + " bytes behind a longer text", length == 8 ? NONE : length, x.fault(0));
        }
    }

    private void fault() {
        says(4, "The FAULT of a text; NONE.");
        due("fault(0)", NONE, x.fault(0));
        due("fault(1)", NONE, x.fault(1));
        tell(0, "s0000000x");
        tell(1, "0");
        due("fault(0)", 8, x.fault(0));
        due("fault(1)", 0, x.fault(1));
        tell(0, "s0000000");
        due("fault(0) of a text that is well", NONE, x.fault(0));
        due("fault(1) of one not ended", 1, x.fault(1));

        says(4, "BAD.");
        for (int text : outside(0, 1)) {
            due("fault(" + text + ")", BAD, x.fault(text));
        }
    }
}
