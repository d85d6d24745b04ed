import java.util.Random;

/** Long runs of chosen calls, the same every time, on the program and on the oracle. */
public final class OracleTest {
    private static final int RUNS = 600, CALLS = 512;
    private static final int[] EDGES = {Integer.MIN_VALUE, Integer.MAX_VALUE, -3, -2, -1, 0, 1, 2, 3, 4, 5, 7, 8, 9, 10, 59, 60, 61, 90, 91, 255, 256, 1023, 1024};

    private final Check check = new Check();
    private final Random r;
    private final ElevenPaces x = new ElevenPaces();
    private final Oracle o = new Oracle();
    private final int run;
    private int called = 0;
    private final int unit;

    private OracleTest(int run) {
        this.run = run;
        r = new Random(1000 + run);
        unit = new int[] {1, 2, 3, 5, 11}[r.nextInt(5)];
    }

    public static void main(String[] args) {
        Check all = new Check();
        for (int run = 0; run < RUNS; run++) {
            OracleTest one = new OracleTest(run);
            one.go();
            all.due("run " + run + ": wrong answers", 0, one.check.wrong());
        }
        all.end();
    }

    private void go() {
        due("set", x.set(0, 2 * unit), o.set(0, 2 * unit));
        int clear = r.nextInt(4) * unit;
        due("set", x.set(1, clear), o.set(1, clear));
        tell(0, people());
        if (r.nextBoolean()) tell(1, fair());
        while (called < CALLS && check.wrong() == 0) any();
    }

    private void due(String call, long got, long want) {
        called++;
        check.due("run " + run + ", call " + called + ": " + call, want, got);
    }

    private void tell(int text, String s) {
        for (int i = 0; i < s.length(); i++) due("type " + s, x.type(text, s.charAt(i)), o.type(text, s.charAt(i)));
    }

    private String people() {
        StringBuilder s = new StringBuilder();
        int n = 1 + r.nextInt(10);
        int things = 1 + r.nextInt(4);
        int cells = 1 + r.nextInt(Math.min(6, 31 / unit + 1));
        int baseX = r.nextInt(Math.max(1, 32 - unit * (cells - 1)));
        int baseY = r.nextInt(Math.max(1, 32 - unit * (cells - 1)));
        int dear = r.nextInt(3) == 0 ? 3 : 100;
        for (int p = 0; p < n; p++) {
            int px = Math.min(31, baseX + unit * r.nextInt(cells));
            int py = Math.min(31, baseY + unit * r.nextInt(cells));
            s.append(p == 0 ? "" : ";").append("ssssbbbbn".charAt(r.nextInt(9))).append(r.nextInt(things));
            s.append(String.format("%02d%02d%02d", r.nextInt(dear), px, py));
        }
        if (r.nextInt(12) == 0) s.setCharAt(r.nextInt(s.length()), ";snb0123459=x".charAt(r.nextInt(13)));
        return s.toString();
    }

    private String fair() {
        StringBuilder s = new StringBuilder();
        int most = Math.max(1, x.count(0) + (r.nextInt(10) == 0 ? 1 : 0));
        int n = 1 + r.nextInt(8);
        for (int k = 0; k < n; k++) {
            int[] pair = {r.nextInt(most), r.nextInt(most)};
            for (int look = 0; look < 20 && x.binds(pair[0], pair[1], 0) != 0; look++) {
                pair[0] = r.nextInt(most);
                pair[1] = r.nextInt(most);
            }
            called++;
            s.append(k == 0 ? "" : ";");
            if (r.nextInt(3) > 0 && pair[0] != pair[1]) s.append("=").append(pair[0]).append(pair[1]);
            else s.append(r.nextInt(most)).append(r.nextInt(8));
        }
        if (r.nextInt(8) == 0) s.setCharAt(r.nextInt(s.length()), ";=0123456789x".charAt(r.nextInt(13)));
        return s.length() > 60 ? s.substring(0, 60) : s.toString();
    }

    /** Mostly a number below the bound; else one of the edges. */
    private int num(int below) {
        return r.nextInt(15) > 0 ? r.nextInt(below) : EDGES[r.nextInt(EDGES.length)];
    }

    private int one() {
        return num(Math.max(1, x.count(0)));
    }

    private void any() {
        int what = r.nextInt(100);
        if (what < 35) {
            moves(what);
        } else if (what < 60) {
            bargains(what);
        } else if (what < 75) {
            posts(what);
        } else {
            sheets(what);
        }
    }

    private void moves(int what) {
        int a = one(), b = one(), c = num(5), d = num(8), i = r.nextBoolean() ? c : num(40);
        if (what < 14) due("step " + a + " " + d, x.step(a, d), o.step(a, d));
        else if (what < 17) due("person " + a + " " + c, x.person(a, c), o.person(a, c));
        else if (what < 19) due("away " + a + " " + b, x.away(a, b), o.away(a, b));
        else if (what < 20) due("home", x.home(), o.home());
        else if (what < 25) settings();
        else if (what < 27) due("comes " + a + " " + b, x.comes(a, b), o.comes(a, b));
        else if (what < 30) due("way " + a + " " + b + " " + i, x.way(a, b, i), o.way(a, b, i));
        else if (what < 33) due("hinders " + a, x.hinders(a, c / 2), o.hinders(a, c / 2));
        else texts();
    }

    private void settings() {
        int which = num(3);
        int v = r.nextInt(4) == 0 ? num(92) : which == 0 ? 2 * unit : r.nextInt(2 * unit + 2);
        due("set " + which + " " + v, x.set(which, v), o.set(which, v));
    }

    private void texts() {
        int t = num(2);
        int b = num(256);
        int way = r.nextInt(12);
        if (way == 0) due("type", x.type(t, b), o.type(t, b));
        else if (way < 4) due("fault", x.fault(t), o.fault(t));
        else if (way < 5) {
            due("wipe", x.wipe(0), o.wipe(0));
            tell(0, people());
        } else if (way < 8) {
            due("wipe", x.wipe(1), o.wipe(1));
            tell(1, fair());
        } else if (way < 9) due("wipe", x.wipe(t), o.wipe(t));
    }

    private void bargains(int what) {
        int a = one(), b = one(), c = num(4), p = r.nextInt(3) == 0 ? -1 : one();
        if (what < 42) due("binds " + a + " " + b + " " + c, x.binds(a, b, c), o.binds(a, b, c));
        else if (what < 44) due("pairs", x.pairs(), o.pairs());
        else if (what < 49) due("once " + p, x.once(p), o.once(p));
        else if (what < 51) due("worth", x.worth(), o.worth());
        else if (what < 54) due("judged " + c, x.judged(c), o.judged(c));
        else if (what < 57) due("ends " + a, x.ends(a), o.ends(a));
        else if (what < 59) {
            int from = 1 + num(30), to = from + num(60);
            due("other " + from + " " + to + " " + c, x.other(from, to, c / 2), o.other(from, to, c / 2));
        } else due("digest", x.digest(), o.digest());
    }

    private void posts(int what) {
        int a = num(8), b = num(8), c = num(2), i = num(6) - 1;
        int s = r.nextInt(3) == 0 ? num(1024) : 32 * unit * r.nextInt(31 / unit + 1) + unit * r.nextInt(31 / unit + 1);
        if (what < 65) due("post " + s, x.post(s), o.post(s));
        else if (what < 67) due("sees", x.sees(), o.sees());
        else if (what < 69) due("more " + c, x.more(c), o.more(c));
        else if (what < 72) due("both " + a + " " + b + " " + i, x.both(a, b, i), o.both(a, b, i));
        else if (what < 74) due("broker " + c, x.broker(c), o.broker(c));
        else if (r.nextInt(3) == 0) due("gone", x.gone(), o.gone());
    }

    private void sheets(int what) {
        int s = num(4), t = num(4), f = num(3), n = r.nextInt(3) > 0 ? num(9) : num(62), i = num(10), j = num(10);
        int v = r.nextInt(3) > 0 ? num(8) : r.nextInt();
        if (what < 79) due("sheet " + s + " " + f + " " + n, x.sheet(s, f, n), o.sheet(s, f, n));
        else if (what < 80) due("lose " + s, x.lose(s), o.lose(s));
        else if (what < 85) due("put " + s + " " + f + " " + i + " " + v, x.put(s, f, i, v), o.put(s, f, i, v));
        else if (what < 89) due("get " + s + " " + f + " " + i, x.get(s, f, i), o.get(s, f, i));
        else if (what < 93) due("copy " + s + " " + i + " " + t + " " + j + " " + n, x.copy(s, i, t, j, n), o.copy(s, i, t, j, n));
        else if (what < 95) due("write " + s, x.write(s), o.write(s));
        else if (what < 97) {
            int a = one();
            due("read " + s + " " + a, x.read(s, a), o.read(s, a));
        } else {
            int c = num(9);
            due("count " + c, x.count(c), o.count(c));
        }
    }
}
