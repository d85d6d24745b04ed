/** What the tests of sentences share: a new object for each sentence, and ways to tell it things. */
abstract class Ground {
    static final int NONE = -1, BAD = -2, NOT = -3, FULL = -4;
    static final int NULL = -11, INDEX = -12, CAST = -13, STORE = -14, SIZE = -15;
    static final int LEAST = Integer.MIN_VALUE, GREATEST = Integer.MAX_VALUE;
    static final int BYTES = 0, SHORTS = 1, INTS = 2;
    static final int TERMS = Book.TERMS;

    /** Nine who are well, without the ; that would come next. */
    static final String NINE = "s0000000;s0000100;s0000200;s0000300;s0000400;s0000500;s0000600;s0000700;s0000800";
    /** One sells at 5, 5 what another, eleven paces to the east, buys for 10 more. */
    static final String TWO = "s1200505;b1301605";

    private final Book book;
    ElevenPaces x = new ElevenPaces();

    Ground(Book book) {
        this.book = book;
    }

    abstract void run();

    void says(int promise, String words) {
        book.open(promise, words);
        fresh();
    }

    void due(String call, long want, long got) {
        book.due(call, want, got);
    }

    void fresh() {
        x = new ElevenPaces();
    }

    void tell(int text, String s) {
        x.wipe(text);
        for (int i = 0; i < s.length(); i++) {
            x.type(text, s.charAt(i));
        }
    }

    /** A new object with PEOPLE and the SETTINGS DUE, CLEAR, NEAR. */
    void field(String people, int due, int clear, int near) {
        fresh();
        tell(0, people);
        x.set(0, due);
        x.set(1, clear);
        x.set(2, near);
    }

    void filled(int s, int form, int... items) {
        x.sheet(s, form, items.length);
        for (int i = 0; i < items.length; i++) {
            x.put(s, form, i, items[i]);
        }
    }

    void rowIs(int s, int form, int... items) {
        for (int i = 0; i < items.length; i++) {
            due("item " + i + " of sheet " + s, items[i], x.get(s, form, i));
        }
    }

    int spot(int p) {
        return 32 * x.person(p, 4) + x.person(p, 3);
    }

    static int at(int column, int row) {
        return 32 * row + column;
    }

    /** Numbers just outside of a range, far outside, and those that a byte or a short would take for one inside. */
    static int[] outside(int least, int most) {
        return new int[] {least - 1, most + 1, LEAST, GREATEST, LEAST + most, least + 65536, most - 65536, most + 1024};
    }

    static String two(int number) {
        return "" + number / 10 + number % 10;
    }
}
