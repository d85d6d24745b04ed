import java.util.ArrayList;
import java.util.List;
import java.util.TreeMap;
import java.util.regex.Matcher;
import java.util.regex.Pattern;

/** The document once more, written otherwise than the program and without care for time. */
final class Oracle {
    static final int NONE = -1, BAD = -2, NOT = -3, FULL = -4;
    private static final Pattern PEOPLE =
            Pattern.compile("([sbn][0-3][0-9]{6}(;[sbn][0-3][0-9]{6}){0,9})?");
    private static final int[][] DELTA = {{0, -1}, {1, -1}, {1, 0}, {1, 1}, {0, 1}, {-1, 1}, {-1, 0}, {-1, -1}};

    private record Place(int x, int y) {
        int spot() {
            return 32 * y + x;
        }

        int away(Place o) {
            return 4 * ((x - o.x) * (x - o.x) + (y - o.y) * (y - o.y));
        }
    }

    private static Place place(int spot) {
        return new Place(spot % 32, spot / 32);
    }

    private record Person(char kind, int thing, int price, Place first) {
    }

    private final StringBuilder[] texts = {new StringBuilder(), new StringBuilder()};
    private List<Person> people = new ArrayList<>();
    private List<Place> now = new ArrayList<>();
    private final List<Place> posts = new ArrayList<>();
    private final int[] settings = {22, 18, 2};
    private final Object[] sheets = new Object[4];
    private int latest = 0;

    // ---- texts

    int type(int text, int b) {
        if (text < 0 || text > 1 || b < 0 || b > 255) return BAD;
        if (texts[text].length() == (text == 0 ? 90 : 60)) return FULL;
        texts[text].append((char) b);
        if (text == 0) reread();
        return texts[text].length();
    }

    int wipe(int text) {
        if (text < 0 || text > 1) return BAD;
        int had = texts[text].length();
        texts[text].setLength(0);
        if (text == 0) reread();
        return had;
    }

    private void reread() {
        people = new ArrayList<>();
        now = new ArrayList<>();
        if (fault(0) != NONE || texts[0].length() == 0) return;
        for (String part : texts[0].toString().split(";")) {
            Place first = new Place(Integer.parseInt(part.substring(4, 6)), Integer.parseInt(part.substring(6, 8)));
            people.add(new Person(part.charAt(0), part.charAt(1) - '0', Integer.parseInt(part.substring(2, 4)), first));
            now.add(first);
        }
    }

    int fault(int text) {
        if (text < 0 || text > 1) return BAD;
        String s = texts[text].toString();
        if (text == 0) {
            int first = patternFault(PEOPLE, s);
            int good = first == NONE ? s.length() : first;
            for (int start = 0; start < good; start += 9) {
                for (int at = start + 4; at <= start + 6; at += 2) {
                    if (at + 2 <= good && Integer.parseInt(s.substring(at, at + 2)) > 31) return at;
                }
            }
            return first;
        }
        return patternFault(fairPattern(), s);
    }

    private Pattern fairPattern() {
        String part = people.isEmpty() ? "(?:=?[^\\x00-\\xff])"
                : "(?:[0-" + (people.size() - 1) + "][0-7]|=(?:" + donePairs() + "))";
        return Pattern.compile("(?:" + part + "(?:;" + part + ")*)?");
    }

    private String donePairs() {
        StringBuilder pairs = new StringBuilder();
        for (int p = 0; p < people.size(); p++) {
            StringBuilder others = new StringBuilder();
            for (int q = 0; q < people.size(); q++) {
                if (q != p) others.append(q);
            }
            String second = others.length() == 0 ? "[^\\x00-\\xff]" : "[" + others + "]";
            pairs.append(p == 0 ? "" : "|").append(p).append(second);
        }
        return pairs.toString();
    }

    /** The shortest prefix with which no text of the pattern begins tells the place. */
    private static int patternFault(Pattern pattern, String s) {
        for (int n = 1; n <= s.length(); n++) {
            Matcher m = pattern.matcher(s.substring(0, n));
            if (!m.matches() && !m.hitEnd()) return n - 1;
        }
        return pattern.matcher(s).matches() ? NONE : s.length();
    }

    // ---- people

    int set(int what, int v) {
        int[][] range = {{1, 90}, {0, 90}, {0, 40}};
        if (what < 0 || what > 2 || v < range[what][0] || v > range[what][1]) return BAD;
        int was = settings[what];
        settings[what] = v;
        return was;
    }

    private boolean isOne(int p) {
        return p >= 0 && p < people.size();
    }

    int person(int p, int what) {
        if (!isOne(p) || what < 0 || what > 4) return BAD;
        Person one = people.get(p);
        return new int[] {"sbn".indexOf(one.kind), one.thing, one.price, now.get(p).x, now.get(p).y}[what];
    }

    private Place lawful(List<Place> stand, int p, int d) {
        Place to = new Place(stand.get(p).x + DELTA[d][0], stand.get(p).y + DELTA[d][1]);
        if (to.x < 0 || to.y < 0 || to.x > 31 || to.y > 31) return null;
        for (int q = 0; q < stand.size(); q++) {
            if (q != p && stand.get(q).away(to) < settings[2] * settings[2]) return null;
        }
        return to;
    }

    int step(int p, int d) {
        if (!isOne(p) || d < 0 || d > 7) return BAD;
        Place to = lawful(now, p, d);
        if (to == null) return NOT;
        now.set(p, to);
        return 1;
    }

    int read(int s, int p) {
        if (s < 0 || s > 3 || !isOne(p)) return BAD;
        if (sheets[s] == null) return find(1);
        int n = 0;
        while (n < size(s) && step(p, item(s, n)) == 1) n++;
        return n;
    }

    int home() {
        int strayed = 0;
        for (int p = 0; p < people.size(); p++) {
            if (!now.get(p).equals(people.get(p).first)) strayed++;
            now.set(p, people.get(p).first);
        }
        return strayed;
    }

    int away(int a, int b) {
        return isOne(a) && isOne(b) ? now.get(a).away(now.get(b)) : BAD;
    }

    // ---- bargains

    private int nearer(List<Place> stand, int a, int b, int without) {
        int clear = settings[1] * settings[1];
        for (int q = 0; q < stand.size(); q++) {
            if (q == a || q == b || q == without) continue;
            if (Math.min(stand.get(q).away(stand.get(a)), stand.get(q).away(stand.get(b))) < clear) return q;
        }
        return NONE;
    }

    private int bind(List<Place> stand, int a, int b, int due, int without) {
        if (stand.get(a).away(stand.get(b)) != due * due) return 1;
        if (nearer(stand, a, b, without) != NONE) return 2;
        Person s = people.get(a).kind == 's' ? people.get(a) : people.get(b);
        Person t = s == people.get(a) ? people.get(b) : people.get(a);
        return s.kind == 's' && t.kind == 'b' && s.thing == t.thing && t.price >= s.price ? 0 : 3;
    }

    private int gain(int a, int b) {
        return Math.abs(people.get(a).price - people.get(b).price);
    }

    int binds(int a, int b, int what) {
        if (!isOne(a) || !isOne(b) || a == b || what < 0 || what > 3) return BAD;
        int answer = bind(now, a, b, settings[0], NONE);
        if (what == 0) return answer;
        if (what == 1) return nearer(now, a, b, NONE);
        if (answer != 0) return NOT;
        return what == 2 ? gain(a, b) : (people.get(a).price + people.get(b).price) / 2;
    }

    private List<int[]> bound(int due, int without) {
        List<int[]> all = new ArrayList<>();
        for (int a = 0; a < people.size(); a++) {
            for (int b = a + 1; b < people.size(); b++) {
                if (a != without && b != without && bind(now, a, b, due, without) == 0) all.add(new int[] {a, b});
            }
        }
        return all;
    }

    int pairs() {
        return bound(settings[0], NONE).size();
    }

    /** The row: how many, WORTH, then of each with whom (10 for nobody). */
    private int[] bestRow() {
        int[] row = new int[people.size() + 2];
        for (int p = 0; p < people.size(); p++) row[p + 2] = 10;
        return best(bound(settings[0], NONE), 0, row);
    }

    private int[] best(List<int[]> edges, int from, int[] row) {
        int[] top = row.clone();
        for (int e = from; e < edges.size(); e++) {
            int a = edges.get(e)[0];
            int b = edges.get(e)[1];
            if (row[a + 2] != 10 || row[b + 2] != 10) continue;
            int[] with = row.clone();
            with[a + 2] = b;
            with[b + 2] = a;
            with[0]++;
            with[1] += gain(a, b);
            int[] got = best(edges, e + 1, with);
            if (better(got, top)) top = got;
        }
        return top;
    }

    private static boolean better(int[] r, int[] s) {
        if (r[0] != s[0]) return r[0] > s[0];
        if (r[1] != s[1]) return r[1] > s[1];
        for (int i = 2; i < r.length; i++) {
            if (r[i] != s[i]) return r[i] < s[i];
        }
        return false;
    }

    int once(int p) {
        if (p != NONE && !isOne(p)) return BAD;
        int[] row = bestRow();
        if (p == NONE) return row[0];
        return row[p + 2] == 10 ? NONE : row[p + 2];
    }

    int worth() {
        return bestRow()[1];
    }

    /** The part, how many DONE, WORTH, then the SPOT of each. */
    private int[] trial() {
        int[] r = new int[3 + people.size()];
        List<Place> stand = new ArrayList<>(now);
        List<Integer> busy = new ArrayList<>();
        r[0] = NONE;
        String[] parts = parts() == 0 ? new String[0] : texts[1].toString().split(";");
        for (int k = 0; k < parts.length; k++) {
            String s = parts[k];
            int a = s.charAt(s.length() - 2) - '0';
            int b = s.charAt(s.length() - 1) - '0';
            if (s.charAt(0) == '=') {
                if (busy.contains(a) || busy.contains(b) || bind(stand, a, b, settings[0], NONE) != 0) {
                    r[0] = k;
                    break;
                }
                busy.add(a);
                busy.add(b);
                r[1]++;
                r[2] += gain(a, b);
            } else {
                Place to = lawful(stand, a, b);
                if (to == null) {
                    r[0] = k;
                    break;
                }
                stand.set(a, to);
            }
        }
        for (int p = 0; p < people.size(); p++) r[3 + p] = stand.get(p).spot();
        return r;
    }

    private int parts() {
        if (fault(1) != NONE || texts[1].length() == 0) return 0;
        return texts[1].toString().split(";").length;
    }

    int judged(int what) {
        return what < 0 || what > 2 ? BAD : trial()[what];
    }

    int ends(int p) {
        return isOne(p) ? trial()[3 + p] : BAD;
    }

    // ---- steps, who is in the way

    /** Forward, level by level, of each SPOT the least row that leads there; null: never. */
    private String row(int a, int b) {
        List<Place> stand = new ArrayList<>(now);
        TreeMap<String, Integer> level = new TreeMap<>();
        boolean[] seen = new boolean[1024];
        level.put("", now.get(a).spot());
        seen[now.get(a).spot()] = true;
        while (!level.isEmpty()) {
            for (String row : level.keySet()) {
                stand.set(a, place(level.get(row)));
                if (bind(stand, a, b, settings[0], NONE) == 0) return row;
            }
            TreeMap<String, Integer> next = new TreeMap<>();
            for (String row : level.keySet()) {
                for (int d = 0; d < 8; d++) {
                    stand.set(a, place(level.get(row)));
                    Place to = lawful(stand, a, d);
                    if (to == null || seen[to.spot()]) continue;
                    seen[to.spot()] = true;
                    next.put(row + d, to.spot());
                }
            }
            level = next;
        }
        return null;
    }

    int comes(int a, int b) {
        if (!isOne(a) || !isOne(b) || a == b) return BAD;
        String row = row(a, b);
        return row == null ? NONE : row.length();
    }

    int way(int a, int b, int i) {
        if (!isOne(a) || !isOne(b) || a == b || i < 0) return BAD;
        String row = row(a, b);
        return row == null || i >= row.length() ? NONE : row.charAt(i) - '0';
    }

    int hinders(int p, int what) {
        if (!isOne(p) || what < 0 || what > 1) return BAD;
        int sum = 0;
        for (int[] pair : bound(settings[0], p)) {
            if (bind(now, pair[0], pair[1], settings[0], NONE) != 0) sum += what == 0 ? 1 : gain(pair[0], pair[1]);
        }
        return sum;
    }

    // ---- posts, brokers

    int post(int spot) {
        if (spot < 0 || spot > 1023) return BAD;
        if (posts.size() == 8) return FULL;
        posts.add(place(spot));
        return posts.size() - 1;
    }

    int gone() {
        int had = posts.size();
        posts.clear();
        return had;
    }

    private int to(Place where) {
        return (int) posts.stream().filter(q -> q.away(where) == settings[0] * settings[0]).count();
    }

    int sees() {
        return posts.stream().mapToInt(this::to).sum() / 2;
    }

    int more(int what) {
        if (what < 0 || what > 1) return BAD;
        int best = 0;
        for (int s = 1023; s >= 0; s--) {
            if (to(place(s)) >= to(place(best))) best = s;
        }
        return what == 0 ? best : to(place(best));
    }

    int both(int a, int b, int i) {
        if (a < 0 || b < 0 || a >= posts.size() || b >= posts.size() || a == b || i < -1) return BAD;
        List<Integer> spots = new ArrayList<>();
        int due = settings[0] * settings[0];
        for (int s = 0; s < 1024; s++) {
            if (posts.get(a).away(place(s)) == due && posts.get(b).away(place(s)) == due) spots.add(s);
        }
        return i == NONE ? spots.size() : i < spots.size() ? spots.get(i) : NONE;
    }

    private int brokered(Place where) {
        int clear = settings[1] * settings[1];
        int sum = 0;
        for (Place q : now) {
            if (q.away(where) < clear) return 0;
        }
        for (int thing = 0; thing < 4; thing++) {
            int most = 0;
            for (int a = 0; a < people.size(); a++) {
                for (int b = 0; b < people.size(); b++) {
                    if (people.get(a).kind != 's' || people.get(b).kind != 'b') continue;
                    if (people.get(a).thing != thing || people.get(b).thing != thing) continue;
                    if (!reaches(where, a) || !reaches(where, b)) continue;
                    most = Math.max(most, people.get(b).price - people.get(a).price);
                }
            }
            sum += most;
        }
        return sum;
    }

    private boolean reaches(Place where, int p) {
        for (int q = 0; q < now.size(); q++) {
            if (q != p && now.get(q).away(now.get(p)) < settings[1] * settings[1]) return false;
        }
        return now.get(p).away(where) == settings[0] * settings[0];
    }

    int broker(int what) {
        if (what < 0 || what > 1) return BAD;
        int most = 0;
        int spot = NONE;
        for (int s = 0; s < 1024; s++) {
            int is = brokered(place(s));
            if (is > most) {
                most = is;
                spot = s;
            }
        }
        return what == 0 ? spot : most;
    }

    int other(int from, int to, int what) {
        if (from < 1 || from > 90 || to < 1 || to > 90 || from > to || what < 0 || what > 1) return BAD;
        int best = to;
        for (int due = to; due >= from; due--) {
            if (bound(due, NONE).size() >= bound(best, NONE).size()) best = due;
        }
        return what == 0 ? best : bound(best, NONE).size();
    }

    // ---- sheets

    private int find(int number) {
        latest = number;
        return -10 - number;
    }

    private int size(int s) {
        return java.lang.reflect.Array.getLength(sheets[s]);
    }

    private int item(int s, int i) {
        return java.lang.reflect.Array.getInt(sheets[s], i);
    }

    private int form(int s) {
        return sheets[s] instanceof byte[] ? 0 : sheets[s] instanceof short[] ? 1 : 2;
    }

    private void store(int s, int i, int v) {
        if (sheets[s] instanceof byte[] r) r[i] = (byte) v;
        if (sheets[s] instanceof short[] r) r[i] = (short) v;
        if (sheets[s] instanceof int[] r) r[i] = v;
    }

    int sheet(int s, int form, int n) {
        if (s < 0 || s > 3 || form < 0 || form > 2 || n > 60) return BAD;
        if (n < 0) return find(5);
        sheets[s] = form == 0 ? new byte[n] : form == 1 ? new short[n] : new int[n];
        return n;
    }

    int lose(int s) {
        if (s < 0 || s > 3) return BAD;
        if (sheets[s] == null) return find(1);
        int had = size(s);
        sheets[s] = null;
        return had;
    }

    private int wrongItem(int s, int form, int i) {
        if (sheets[s] == null) return 1;
        if (form(s) != form) return 3;
        return i < 0 || i >= size(s) ? 2 : 0;
    }

    int put(int s, int form, int i, int v) {
        if (s < 0 || s > 3 || form < 0 || form > 2) return BAD;
        if (wrongItem(s, form, i) != 0) return find(wrongItem(s, form, i));
        store(s, i, v);
        return 1;
    }

    int get(int s, int form, int i) {
        if (s < 0 || s > 3 || form < 0 || form > 2) return Integer.MIN_VALUE;
        if (wrongItem(s, form, i) != 0) {
            find(wrongItem(s, form, i));
            return Integer.MIN_VALUE;
        }
        return item(s, i);
    }

    int copy(int s, int i, int t, int j, int n) {
        if (s < 0 || s > 3 || t < 0 || t > 3) return BAD;
        if (sheets[s] == null || sheets[t] == null) return find(1);
        if (form(s) != form(t)) return find(4);
        if (i < 0 || j < 0 || n < 0 || (long) i + n > size(s) || (long) j + n > size(t)) return find(2);
        int[] held = new int[n];
        for (int k = 0; k < n; k++) held[k] = item(s, i + k);
        for (int k = 0; k < n; k++) store(t, j + k, held[k]);
        return 1;
    }

    int write(int s) {
        if (s < 0 || s > 3) return BAD;
        if (sheets[s] == null) return find(1);
        int n = 0;
        for (; n < size(s) && n < people.size(); n++) store(s, n, now.get(n).spot());
        return n;
    }

    int count(int what) {
        if (what < 0 || what > 8) return BAD;
        return new int[] {people.size(), texts[0].length(), texts[1].length(), parts(), posts.size(),
            settings[0], settings[1], settings[2], latest}[what];
    }

    long digest() {
        List<Integer> all = new ArrayList<>();
        for (int k = 0; k < 8; k++) all.add(count(k));
        all.add(fault(0));
        all.add(fault(1));
        for (int p = 0; p < people.size(); p++) {
            for (int k = 0; k < 5; k++) all.add(person(p, k));
            all.addAll(List.of(once(p), ends(p), hinders(p, 0), hinders(p, 1)));
        }
        all.addAll(List.of(pairs(), once(NONE), worth(), judged(0), judged(1), judged(2)));
        all.addAll(List.of(sees(), more(0), more(1), broker(0), broker(1), other(10, 30, 0), other(10, 30, 1)));
        if (people.size() >= 2) all.add(comes(0, 1));
        long h = 17;
        for (int v : all) h = 31 * h + v;
        return h;
    }
}
