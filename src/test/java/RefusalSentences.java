import java.util.ArrayList;
import java.util.List;

/** Refusals: the last words of Terms, for every call that may be refused. */
final class RefusalSentences extends Ground {
    /** A call that is refused; of all numbers that a call takes, those that it takes first. */
    private record Refused(String call, int answer, int... n) {
    }

    RefusalSentences(Book book) {
        super(book);
    }

    @Override
    void run() {
        order();
        changeNothing();
        fullChangesNothing();
    }

    private void order() {
        says(TERMS, "Refusals, the first that fits, in the order told at each act: BAD -2 (a number not as told, no such thing),"
            + " NULL, NOT -3 (as told), FULL -4, other FINDINGS.");
        due("BAD", -2, ElevenPaces.BAD);
        due("NOT", -3, ElevenPaces.NOT);
        due("FULL", -4, ElevenPaces.FULL);
        due("NONE", -1, ElevenPaces.NONE);
        for (Refused r : all()) {
            stage();
            due(told(r), r.answer, answer(r));
        }
    }

    private void changeNothing() {
        says(TERMS, "They change nothing (FINDINGS but count() 8).");
        for (Refused r : all()) {
            stage();
            List<Long> before = state();
            answer(r);
            int finding = isFinding(r) ? r.call.equals("get") ? r.n[3] : -10 - r.answer : 3;
            due("count(8) behind " + told(r), finding, x.count(8));
            List<Long> behind = state();
            for (int i = 0; i < before.size(); i++) {
                due("thing " + i + " of the state behind " + told(r), before.get(i), behind.get(i));
            }
        }
    }

    private void fullChangesNothing() {
        says(TERMS, "NOT -3 (as told), FULL -4");
        stage();
        for (int i = x.count(2); i < 60; i++) {
            x.type(1, 'x');
        }
        for (int i = x.count(4); i < 8; i++) {
            x.post(5);
        }
        List<Long> before = state();
        due("type(1, 48)", FULL, x.type(1, 48));
        due("type(1, 256)", BAD, x.type(1, 256));
        due("post(7)", FULL, x.post(7));
        due("post(1024)", BAD, x.post(1024));
        due("all is as it was", 1, before.equals(state()) ? 1 : 0);
    }

    /** Three who stand elsewhere than told, a FAIR, two POSTS, three SHEETS; the latest FINDING is CAST. */
    private void stage() {
        field(TWO + ";n0000000", 22, 4, 3);
        tell(1, "06;=01");
        x.step(0, 2);
        x.step(1, 2);
        x.post(0);
        x.post(11);
        filled(0, BYTES, 1, 2);
        filled(1, SHORTS, 3, 4, 5);
        filled(2, INTS, 6);
        x.put(0, INTS, 0, 9);
    }

    private static String told(Refused r) {
        StringBuilder s = new StringBuilder(r.call);
        for (int n : r.n) {
            s.append(' ').append(n);
        }
        return s.toString();
    }

    private static boolean isFinding(Refused r) {
        return r.call.equals("get") ? r.n[3] > 0 : r.answer <= NULL;
    }

    private static void add(List<Refused> to, String call, int answer, int[]... numbers) {
        for (int[] n : numbers) {
            to.add(new Refused(call, answer, n));
        }
    }

    private static int[] n(int... numbers) {
        return numbers;
    }

    private static List<Refused> all() {
        List<Refused> all = new ArrayList<>();
        texts(all);
        people(all);
        posts(all);
        sheets(all);
        return all;
    }

    private static void texts(List<Refused> all) {
        add(all, "type", BAD, n(2, 48), n(-1, 48), n(0, 256), n(0, -1), n(1, 256), n(2, 256));
        add(all, "wipe", BAD, n(2), n(-1));
        add(all, "fault", BAD, n(2), n(-1));
        add(all, "set", BAD, n(3, 5), n(-1, 5), n(0, 0), n(0, 91), n(1, -1), n(1, 91), n(2, -1), n(2, 41));
    }

    private static void people(List<Refused> all) {
        add(all, "person", BAD, n(3, 0), n(-1, 0), n(0, 5), n(0, -1));
        add(all, "step", BAD, n(3, 0), n(-1, 0), n(0, 8), n(0, -1), n(3, 8));
        add(all, "step", NOT, n(2, 0), n(2, 6), n(2, 7));
        add(all, "read", BAD, n(4, 0), n(-1, 0), n(0, 3), n(0, -1), n(3, 3), n(3, -1));
        add(all, "read", NULL, n(3, 0));
        add(all, "away", BAD, n(0, 3), n(3, 0), n(-1, 0), n(0, -1));
        add(all, "binds", BAD, n(0, 3, 0), n(3, 0, 0), n(0, 0, 0), n(0, 1, 4), n(0, 1, -1), n(0, 0, 2));
        add(all, "binds", NOT, n(0, 2, 2), n(0, 2, 3), n(2, 0, 2));
        add(all, "once", BAD, n(3), n(-2));
        add(all, "judged", BAD, n(3), n(-1));
        add(all, "ends", BAD, n(3), n(-1));
        add(all, "comes", BAD, n(0, 3), n(3, 0), n(1, 1), n(-1, 0));
        add(all, "way", BAD, n(0, 3, 0), n(3, 0, 0), n(1, 1, 0), n(0, 1, -1));
        add(all, "hinders", BAD, n(3, 0), n(-1, 0), n(0, 2), n(0, -1));
    }

    private static void posts(List<Refused> all) {
        add(all, "post", BAD, n(1024), n(-1));
        add(all, "more", BAD, n(2), n(-1));
        add(all, "both", BAD, n(0, 2, NONE), n(2, 0, 0), n(1, 1, NONE), n(0, 1, -2), n(-1, 1, 0));
        add(all, "broker", BAD, n(2), n(-1));
        add(all, "other", BAD, n(0, 5, 0), n(5, 91, 0), n(6, 5, 0), n(5, 6, 2), n(5, 6, -1));
        add(all, "count", BAD, n(9), n(-1));
    }

    /** Of get() the fourth number is the FINDING that count() 8 tells, and no number of the call; 0: none. */
    private static void sheets(List<Refused> all) {
        add(all, "sheet", BAD, n(4, 0, 1), n(-1, 0, 1), n(0, 3, 1), n(0, -1, 1), n(0, 0, 61), n(4, 0, -1), n(0, 3, -1));
        add(all, "sheet", SIZE, n(0, 0, -1), n(3, 2, -1));
        add(all, "lose", BAD, n(4), n(-1));
        add(all, "lose", NULL, n(3));
        add(all, "put", BAD, n(4, 0, 0, 7), n(-1, 0, 0, 7), n(0, 3, 0, 7), n(3, 3, 0, 7), n(0, -1, 9, 7));
        add(all, "put", NULL, n(3, 0, 0, 7), n(3, 1, -1, 7));
        add(all, "put", CAST, n(0, 1, 0, 7), n(1, 0, 9, 7));
        add(all, "put", INDEX, n(0, 0, 2, 7), n(0, 0, -1, 7), n(2, 2, 1, 7));
        add(all, "get", LEAST, n(4, 0, 0, 0), n(0, 3, 0, 0), n(3, -1, 0, 0));
        add(all, "get", LEAST, n(3, 0, 0, 1), n(3, 0, -1, 1), n(0, 1, 0, 3), n(1, 2, 9, 3), n(0, 0, 2, 2), n(0, 0, -1, 2));
        add(all, "copy", BAD, n(4, 0, 0, 0, 1), n(0, 0, 4, 0, 1), n(3, 0, -1, 0, 1), n(-1, -1, 3, -1, -1));
        add(all, "copy", NULL, n(3, 0, 0, 0, 1), n(0, 0, 3, 0, 1), n(3, -1, 3, -1, -1), n(0, 9, 3, 9, 9));
        add(all, "copy", STORE, n(0, 0, 1, 0, 1), n(1, 0, 2, 0, 0), n(2, -1, 0, 9, -1));
        add(all, "copy", INDEX, n(1, 0, 1, 1, 3), n(1, 1, 1, 0, 3), n(1, 0, 1, 0, 4), n(1, -1, 1, 0, 1), n(1, 4, 1, 0, 0),
            n(1, 0, 1, 4, 0), n(1, 0, 1, -1, 1), n(1, 0, 1, 0, -1));
        add(all, "write", BAD, n(4), n(-1));
        add(all, "write", NULL, n(3));
    }

    private int answer(Refused r) {
        int a = r.n[0];
        int b = r.n.length > 1 ? r.n[1] : 0;
        int c = r.n.length > 2 ? r.n[2] : 0;
        int d = r.n.length > 3 ? r.n[3] : 0;
        switch (r.call) {
            case "type": return x.type(a, b);
            case "wipe": return x.wipe(a);
            case "fault": return x.fault(a);
            case "set": return x.set(a, b);
            case "person": return x.person(a, b);
            case "step": return x.step(a, b);
            case "read": return x.read(a, b);
            case "away": return x.away(a, b);
            case "binds": return x.binds(a, b, c);
            case "once": return x.once(a);
            case "judged": return x.judged(a);
            case "ends": return x.ends(a);
            case "comes": return x.comes(a, b);
            case "way": return x.way(a, b, c);
            case "hinders": return x.hinders(a, b);
            case "post": return x.post(a);
            case "more": return x.more(a);
            case "both": return x.both(a, b, c);
            case "broker": return x.broker(a);
            case "other": return x.other(a, b, c);
            case "count": return x.count(a);
            case "sheet": return x.sheet(a, b, c);
            case "lose": return x.lose(a);
            case "put": return x.put(a, b, c, d);
            case "get": return x.get(a, b, c);
            case "copy": return x.copy(a, b, c, d, r.n[4]);
            case "write": return x.write(a);
            default: throw new IllegalArgumentException(r.call);
        }
    }

    /** All that can be asked for of the stage but the latest FINDING. */
    private List<Long> state() {
        List<Long> all = new ArrayList<>();
        all.add(x.digest());
        for (int what = 0; what <= 7; what++) {
            all.add((long) x.count(what));
        }
        for (int p = 0; p < 3; p++) {
            all.add((long) spot(p));
            all.add((long) x.ends(p));
        }
        for (int what = 0; what < 3; what++) {
            all.add((long) x.judged(what));
        }
        all.add((long) x.both(0, 1, NONE));
        int[] sizes = {2, 3, 1};
        for (int s = 0; s < 3; s++) {
            for (int i = 0; i < sizes[s]; i++) {
                all.add((long) x.get(s, s, i));
            }
        }
        return all;
    }
}
