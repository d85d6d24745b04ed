import java.util.Arrays;

/**
 * Struck at eleven paces: bargains on a field that bind only at just the DUE distance, with nobody
 * else nearer than CLEAR. The document ../shared/DOC.md says what each call promises.
 *
 * All rows are made in constructors and used again, so that no call makes an object.
 */
public final class ElevenPaces {
    public static final int NONE = -1, BAD = -2, NOT = -3, FULL = -4;

    private static final int SIDE = 32, SPOTS = 1024;
    private static final int DIRECTIONS = 8;
    private static final int[] EAST = {0, 1, 1, 1, 0, -1, -1, -1};
    private static final int[] SOUTH = {-1, -1, 0, 1, 1, 1, 0, -1};

    private static final int PEOPLE_TEXT = 0, FAIR_TEXT = 1;
    private static final int MOST_PEOPLE_BYTES = 90, MOST_FAIR_BYTES = 60;
    private static final int MOST_PEOPLE = 10, MOST_PARTS = 20, MOST_POSTS = 8;
    private static final int SELLS = 0, BUYS = 1, NEITHER = 2;
    private static final int THINGS = 4;

    private static final int DUE = 0, CLEAR = 1, NEAR = 2;
    private static final int[] LEAST_SETTING = {1, 0, 0};
    private static final int[] MOST_SETTING = {90, 90, 40};
    private static final int MOST_DUE = 90;

    private static final int IT_BINDS = 0, NOT_DUE = 1, NOT_CLEAR = 2, NO_TRADE = 3;

    private static final int SHEETS = 4, FORMS = 3, MOST_ITEMS = 60;
    private static final int BYTES = 0, SHORTS = 1;
    private static final int NULL = 1, INDEX = 2, CAST = 3, STORE = 4, SIZE = 5;
    private static final int LEAST_INT = -2147483648;

    private final Text peopleText;
    private final Text fairText;
    private final Crowd crowd;
    private final Market market;
    private final Fair fair;
    private final Trial trial;
    private final Match match;
    private final Walk walk;
    private final Posts posts;
    private final Stall stall;
    private final Sheet[] sheets;
    private int latestFinding;

    public ElevenPaces() {
        peopleText = new Text(MOST_PEOPLE_BYTES);
        fairText = new Text(MOST_FAIR_BYTES);
        crowd = new Crowd();
        market = new Market(crowd);
        fair = new Fair();
        trial = new Trial(market);
        match = new Match(market);
        walk = new Walk(market);
        posts = new Posts();
        stall = new Stall(market);
        sheets = new Sheet[SHEETS];
        for (int s = 0; s < SHEETS; s++) {
            sheets[s] = new Sheet();
        }
        latestFinding = 0;
    }

    // ---- texts, people

    public int type(int text, int b) {
        if (!isText(text) || b < 0 || b > 255) {
            return BAD;
        }
        Text told = textOf(text);
        if (told.isFull()) {
            return FULL;
        }
        told.add(b);
        takeIn(text);
        return told.length();
    }

    public int wipe(int text) {
        if (!isText(text)) {
            return BAD;
        }
        int had = textOf(text).clear();
        takeIn(text);
        return had;
    }

    public int fault(int text) {
        if (!isText(text)) {
            return BAD;
        }
        return text == PEOPLE_TEXT ? crowd.fault : fair.fault;
    }

    public int set(int what, int v) {
        if (what < DUE || what > NEAR || v < LEAST_SETTING[what] || v > MOST_SETTING[what]) {
            return BAD;
        }
        int was = market.settings[what];
        market.settings[what] = v;
        return was;
    }

    public int person(int p, int what) {
        if (!isPerson(p)) {
            return BAD;
        }
        switch (what) {
            case 0: return crowd.trade[p];
            case 1: return crowd.thing[p];
            case 2: return crowd.price[p];
            case 3: return crowd.spot[p] % SIDE;
            case 4: return crowd.spot[p] / SIDE;
            default: return BAD;
        }
    }

    public int step(int p, int direction) {
        if (!isPerson(p) || !isDirection(direction)) {
            return BAD;
        }
        return goes(p, direction) ? 1 : NOT;
    }

    public int read(int s, int p) {
        if (!isSheet(s) || !isPerson(p)) {
            return BAD;
        }
        Sheet sheet = sheets[s];
        if (sheet.lost) {
            return found(NULL);
        }
        int steps = 0;
        while (steps < sheet.size && isDirection(sheet.items[steps]) && goes(p, sheet.items[steps])) {
            steps++;
        }
        return steps;
    }

    public int home() {
        return crowd.goHome();
    }

    public int away(int a, int b) {
        if (!isPerson(a) || !isPerson(b)) {
            return BAD;
        }
        return between(crowd.spot[a], crowd.spot[b]);
    }

    // ---- bargains

    public int binds(int a, int b, int what) {
        if (!areTwo(a, b) || what < 0 || what > 3) {
            return BAD;
        }
        if (what == 1) {
            return market.firstNearer(crowd.spot, a, b, NONE);
        }
        int verdict = market.verdict(crowd.spot, a, b, NONE);
        if (what == 0) {
            return verdict;
        }
        if (verdict != IT_BINDS) {
            return NOT;
        }
        return what == 2 ? crowd.gain(a, b) : (crowd.price[a] + crowd.price[b]) / 2;
    }

    public int pairs() {
        return market.bindingPairs(market.settings[DUE]);
    }

    public int once(int p) {
        if (p != NONE && !isPerson(p)) {
            return BAD;
        }
        match.solve();
        return p == NONE ? match.mostPairs : match.bestMate[p];
    }

    public int worth() {
        match.solve();
        return match.mostGain;
    }

    public int judged(int what) {
        if (what < 0 || what > 2) {
            return BAD;
        }
        trial.judge(fair);
        return trial.result(what);
    }

    public int ends(int p) {
        if (!isPerson(p)) {
            return BAD;
        }
        trial.judge(fair);
        return trial.spot[p];
    }

    // ---- steps, who is in the way

    public int comes(int a, int b) {
        if (!areTwo(a, b)) {
            return BAD;
        }
        return walk.search(a, b);
    }

    public int way(int a, int b, int i) {
        if (!areTwo(a, b) || i < 0) {
            return BAD;
        }
        int steps = walk.search(a, b);
        return i < steps ? walk.direction(crowd.spot[a], i) : NONE;
    }

    public int hinders(int p, int what) {
        if (!isPerson(p) || what < 0 || what > 1) {
            return BAD;
        }
        return market.hindered(p, what == 1);
    }

    // ---- posts, brokers

    public int post(int spot) {
        if (!isSpot(spot)) {
            return BAD;
        }
        return posts.isFull() ? FULL : posts.add(spot);
    }

    public int gone() {
        return posts.clear();
    }

    public int sees() {
        return posts.pairsAt(market.square(DUE));
    }

    public int more(int what) {
        if (what < 0 || what > 1) {
            return BAD;
        }
        int spot = posts.bestSpot(market.square(DUE));
        return what == 0 ? spot : posts.seenFrom(spot, market.square(DUE));
    }

    public int both(int a, int b, int i) {
        if (!posts.has(a) || !posts.has(b) || a == b || i < NONE) {
            return BAD;
        }
        if (i == NONE) {
            return posts.commonSpots(a, b, market.square(DUE));
        }
        return posts.commonSpot(a, b, market.square(DUE), i);
    }

    public int broker(int what) {
        if (what < 0 || what > 1) {
            return BAD;
        }
        stall.seek();
        return what == 0 ? stall.bestSpot : stall.mostProfit;
    }

    public int other(int from, int to, int what) {
        if (from < 1 || to > MOST_DUE || from > to || what < 0 || what > 1) {
            return BAD;
        }
        int due = market.bestDue(from, to);
        return what == 0 ? due : market.bindingPairs(due);
    }

    // ---- sheets

    public int sheet(int s, int form, int n) {
        if (!isSheet(s) || !isForm(form) || n > MOST_ITEMS) {
            return BAD;
        }
        if (n < 0) {
            return found(SIZE);
        }
        sheets[s].renew(form, n);
        return n;
    }

    public int lose(int s) {
        if (!isSheet(s)) {
            return BAD;
        }
        if (sheets[s].lost) {
            return found(NULL);
        }
        sheets[s].lost = true;
        return sheets[s].size;
    }

    public int put(int s, int form, int i, int v) {
        if (!isSheet(s) || !isForm(form)) {
            return BAD;
        }
        int finding = sheets[s].findingAt(form, i);
        if (finding != 0) {
            return found(finding);
        }
        sheets[s].store(i, v);
        return 1;
    }

    public int get(int s, int form, int i) {
        if (!isSheet(s) || !isForm(form)) {
            return LEAST_INT;
        }
        int finding = sheets[s].findingAt(form, i);
        if (finding != 0) {
            latestFinding = finding;
            return LEAST_INT;
        }
        return sheets[s].items[i];
    }

    public int copy(int s, int i, int t, int j, int n) {
        if (!isSheet(s) || !isSheet(t)) {
            return BAD;
        }
        Sheet source = sheets[s];
        Sheet target = sheets[t];
        if (source.lost || target.lost) {
            return found(NULL);
        }
        if (source.form != target.form) {
            return found(STORE);
        }
        if (!source.hasRange(i, n) || !target.hasRange(j, n)) {
            return found(INDEX);
        }
        System.arraycopy(source.items, i, target.items, j, n);
        return 1;
    }

    public int write(int s) {
        if (!isSheet(s)) {
            return BAD;
        }
        if (sheets[s].lost) {
            return found(NULL);
        }
        int written = Math.min(sheets[s].size, crowd.size);
        for (int p = 0; p < written; p++) {
            sheets[s].store(p, crowd.spot[p]);
        }
        return written;
    }

    public int count(int what) {
        switch (what) {
            case 0: return crowd.size;
            case 1: return peopleText.length();
            case 2: return fairText.length();
            case 3: return fair.size;
            case 4: return posts.size;
            case 5: return market.settings[DUE];
            case 6: return market.settings[CLEAR];
            case 7: return market.settings[NEAR];
            case 8: return latestFinding;
            default: return BAD;
        }
    }

    public long digest() {
        long h = 17;
        for (int what = 0; what <= 7; what++) {
            h = mixed(h, count(what));
        }
        h = mixed(mixed(h, crowd.fault), fair.fault);
        match.solve();
        trial.judge(fair);
        for (int p = 0; p < crowd.size; p++) {
            h = mixedPerson(h, p);
        }
        h = mixed(mixed(mixed(h, pairs()), match.mostPairs), match.mostGain);
        for (int what = 0; what <= 2; what++) {
            h = mixed(h, trial.result(what));
        }
        int square = market.square(DUE);
        int spot = posts.bestSpot(square);
        h = mixed(mixed(mixed(h, posts.pairsAt(square)), spot), posts.seenFrom(spot, square));
        stall.seek();
        h = mixed(mixed(h, stall.bestSpot), stall.mostProfit);
        int due = market.bestDue(10, 30);
        h = mixed(mixed(h, due), market.bindingPairs(due));
        return crowd.size >= 2 ? mixed(h, walk.search(0, 1)) : h;
    }

    // ---- helpers of the calls

    /** The match and the trial are worked out once for all people, ahead of the first one. */
    private long mixedPerson(long start, int p) {
        long h = start;
        for (int what = 0; what <= 4; what++) {
            h = mixed(h, person(p, what));
        }
        h = mixed(mixed(h, match.bestMate[p]), trial.spot[p]);
        return mixed(mixed(h, market.hindered(p, false)), market.hindered(p, true));
    }

    private static long mixed(long h, int v) {
        return 31L * h + v;
    }

    private int found(int finding) {
        latestFinding = finding;
        return -10 - finding;
    }

    private Text textOf(int text) {
        return text == PEOPLE_TEXT ? peopleText : fairText;
    }

    /** A FAIR is read anew with the people too: a figure may now be of nobody. */
    private void takeIn(int text) {
        if (text == PEOPLE_TEXT) {
            crowd.tell(peopleText);
        }
        fair.tell(fairText, crowd.size);
    }

    private boolean goes(int p, int direction) {
        int spot = market.lawfulStep(crowd.spot, p, direction);
        if (spot == NONE) {
            return false;
        }
        crowd.spot[p] = spot;
        return true;
    }

    private boolean isPerson(int p) {
        return p >= 0 && p < crowd.size;
    }

    private boolean areTwo(int a, int b) {
        return isPerson(a) && isPerson(b) && a != b;
    }

    private static boolean isText(int text) {
        return text == PEOPLE_TEXT || text == FAIR_TEXT;
    }

    private static boolean isDirection(int direction) {
        return direction >= 0 && direction < DIRECTIONS;
    }

    private static boolean isSpot(int spot) {
        return spot >= 0 && spot < SPOTS;
    }

    private static boolean isSheet(int s) {
        return s >= 0 && s < SHEETS;
    }

    private static boolean isForm(int form) {
        return form >= 0 && form < FORMS;
    }

    /** AWAY of two SPOTS. */
    private static int between(int s, int t) {
        int x = s % SIDE - t % SIDE;
        int y = s / SIDE - t / SIDE;
        return 4 * (x * x + y * y);
    }

    /** The SPOT next to one in a DIRECTION; NONE: it is off THE FIELD. */
    private static int neighbour(int spot, int direction) {
        int x = spot % SIDE + EAST[direction];
        int y = spot / SIDE + SOUTH[direction];
        return x < 0 || x >= SIDE || y < 0 || y >= SIDE ? NONE : SIDE * y + x;
    }

    private static int figure(int b) {
        return b >= '0' && b <= '9' ? b - '0' : NONE;
    }

    private static final class Text {
        private final int[] bytes;
        private int length;

        Text(int most) {
            bytes = new int[Math.max(most, 0)];
            length = 0;
        }

        int length() {
            return length;
        }

        boolean isFull() {
            return length >= bytes.length;
        }

        void add(int b) {
            if (!isFull()) {
                bytes[length] = b;
                length++;
            }
        }

        int clear() {
            int had = length;
            length = 0;
            return had;
        }

        /** NONE, which is no byte, beyond the end: so a reader need not ask for the end first. */
        int at(int i) {
            return i >= 0 && i < length ? bytes[i] : NONE;
        }
    }

    /** PEOPLE: what the text tells of each, and where each stands now. */
    private static final class Crowd {
        /** Each part is eight bytes long, and a ; follows it. */
        private static final int PART = 9;

        private final int[] trade = new int[MOST_PEOPLE];
        private final int[] thing = new int[MOST_PEOPLE];
        private final int[] price = new int[MOST_PEOPLE];
        private final int[] homeSpot = new int[MOST_PEOPLE];
        private final int[] spot = new int[MOST_PEOPLE];
        private int size = 0;
        private int fault = NONE;

        void tell(Text text) {
            fault = faultOf(text);
            size = fault == NONE ? Math.min((text.length() + 1) / PART, MOST_PEOPLE) : 0;
            for (int p = 0; p < size; p++) {
                place(text, p);
            }
        }

        int goHome() {
            int strayed = 0;
            for (int p = 0; p < size; p++) {
                if (spot[p] != homeSpot[p]) {
                    strayed++;
                }
                spot[p] = homeSpot[p];
            }
            return strayed;
        }

        boolean canTrade(int a, int b) {
            return sellsTo(a, b) || sellsTo(b, a);
        }

        /** WORTH, of two that can trade. */
        int gain(int a, int b) {
            return trade[a] == BUYS ? price[a] - price[b] : price[b] - price[a];
        }

        private boolean sellsTo(int a, int b) {
            return trade[a] == SELLS && trade[b] == BUYS && thing[a] == thing[b] && price[b] >= price[a];
        }

        private void place(Text text, int p) {
            int start = p * PART;
            int letter = text.at(start);
            trade[p] = letter == 's' ? SELLS : letter == 'b' ? BUYS : NEITHER;
            thing[p] = figure(text.at(start + 1));
            price[p] = number(text, start + 2);
            homeSpot[p] = SIDE * number(text, start + 6) + number(text, start + 4);
            spot[p] = homeSpot[p];
        }

        private static int number(Text text, int i) {
            return 10 * figure(text.at(i)) + figure(text.at(i + 1));
        }

        private static int faultOf(Text text) {
            int length = text.length();
            for (int i = 0; i < length; i++) {
                int place = faultAt(text, i);
                if (place != NONE) {
                    return place;
                }
            }
            boolean isEnded = length == 0 || length % PART == PART - 1;
            return isEnded ? NONE : length;
        }

        /** The FAULT that byte i brings, if all bytes ahead of it are well; NONE. */
        private static int faultAt(Text text, int i) {
            int b = text.at(i);
            if (i / PART >= MOST_PEOPLE) {
                return i;
            }
            switch (i % PART) {
                case 0: return b == 's' || b == 'b' || b == 'n' ? NONE : i;
                case 1: return figure(b) != NONE && figure(b) < THINGS ? NONE : i;
                case 5:
                case 7: return figure(b) == NONE ? i : number(text, i - 1) < SIDE ? NONE : i - 1;
                case 8: return b == ';' ? NONE : i;
                default: return figure(b) != NONE ? NONE : i;
            }
        }
    }

    /** SETTINGS, and the laws of steps and bargains under them, wherever people stand. */
    private static final class Market {
        private final Crowd crowd;
        private final int[] settings = {22, 18, 2};

        Market(Crowd crowd) {
            this.crowd = crowd;
        }

        int square(int what) {
            return settings[what] * settings[what];
        }

        /** The SPOT to which a STEP leads; NONE: it is not LAWFUL. */
        int lawfulStep(int[] spots, int p, int direction) {
            int spot = neighbour(spots[p], direction);
            return spot != NONE && mayStand(spots, p, spot) ? spot : NONE;
        }

        boolean mayStand(int[] spots, int p, int spot) {
            int near = square(NEAR);
            for (int q = 0; q < crowd.size; q++) {
                if (q != p && between(spots[q], spot) < near) {
                    return false;
                }
            }
            return true;
        }

        /** The least number of who is nearer than CLEAR to one of two, the absent one aside; NONE. */
        int firstNearer(int[] spots, int a, int b, int absent) {
            int clear = square(CLEAR);
            for (int q = 0; q < crowd.size; q++) {
                boolean counts = q != a && q != b && q != absent;
                if (counts && (between(spots[q], spots[a]) < clear || between(spots[q], spots[b]) < clear)) {
                    return q;
                }
            }
            return NONE;
        }

        int verdict(int[] spots, int a, int b, int absent) {
            return verdictBy(settings[DUE], spots, a, b, absent);
        }

        int bindingPairs(int due) {
            int binding = 0;
            for (int a = 0; a < crowd.size; a++) {
                for (int b = a + 1; b < crowd.size; b++) {
                    if (verdictBy(due, crowd.spot, a, b, NONE) == IT_BINDS) {
                        binding++;
                    }
                }
            }
            return binding;
        }

        int bestDue(int from, int to) {
            int best = from;
            int most = bindingPairs(from);
            for (int due = from + 1; due <= to; due++) {
                int binding = bindingPairs(due);
                if (binding > most) {
                    most = binding;
                    best = due;
                }
            }
            return best;
        }

        /** How many pairs one hinders, or their WORTH together. */
        int hindered(int p, boolean asWorth) {
            int sum = 0;
            for (int a = 0; a < crowd.size; a++) {
                for (int b = a + 1; b < crowd.size; b++) {
                    if (a != p && b != p && isHinderedBy(p, a, b)) {
                        sum += asWorth ? crowd.gain(a, b) : 1;
                    }
                }
            }
            return sum;
        }

        private boolean isHinderedBy(int p, int a, int b) {
            return verdict(crowd.spot, a, b, p) == IT_BINDS && verdict(crowd.spot, a, b, NONE) != IT_BINDS;
        }

        private int verdictBy(int due, int[] spots, int a, int b, int absent) {
            if (between(spots[a], spots[b]) != due * due) {
                return NOT_DUE;
            }
            if (firstNearer(spots, a, b, absent) != NONE) {
                return NOT_CLEAR;
            }
            return crowd.canTrade(a, b) ? IT_BINDS : NO_TRADE;
        }
    }

    /** The parts of text 1, in order. */
    private static final class Fair {
        private final boolean[] isDone = new boolean[MOST_PARTS];
        private final int[] one = new int[MOST_PARTS];
        /** A DIRECTION, or the other one of a DONE. */
        private final int[] two = new int[MOST_PARTS];
        private int size = 0;
        private int fault = NONE;

        void tell(Text text, int people) {
            size = 0;
            fault = text.length() == 0 ? NONE : faultOf(text, people);
            if (fault != NONE) {
                size = 0;
            }
        }

        /** Bytes beyond the end are like wrong ones, so that a text not ended has its FAULT there. */
        private int faultOf(Text text, int people) {
            int start = 0;
            for (int part = 0; part < MOST_PARTS; part++) {
                boolean done = text.at(start) == '=';
                int i = done ? start + 1 : start;
                int first = figure(text.at(i));
                int second = figure(text.at(i + 1));
                if (first == NONE || first >= people) {
                    return i;
                }
                boolean fits = done ? second != first && second < people : isDirection(second);
                if (second == NONE || !fits) {
                    return i + 1;
                }
                isDone[part] = done;
                one[part] = first;
                two[part] = second;
                size = part + 1;
                if (i + 2 == text.length()) {
                    return NONE;
                }
                if (text.at(i + 2) != ';') {
                    return i + 2;
                }
                start = i + 3;
            }
            return start;
        }
    }

    /** A FAIR JUDGED, with people of its own to move. */
    private static final class Trial {
        private final Market market;
        private final int[] spot = new int[MOST_PEOPLE];
        private final boolean[] hasDone = new boolean[MOST_PEOPLE];
        private int failed = NONE;
        private int bargains = 0;
        private int gained = 0;

        Trial(Market market) {
            this.market = market;
        }

        void judge(Fair fair) {
            for (int p = 0; p < market.crowd.size; p++) {
                spot[p] = market.crowd.spot[p];
                hasDone[p] = false;
            }
            bargains = 0;
            gained = 0;
            failed = NONE;
            for (int part = 0; part < fair.size && failed == NONE; part++) {
                boolean holds = fair.isDone[part]
                        ? strikes(fair.one[part], fair.two[part])
                        : moves(fair.one[part], fair.two[part]);
                if (!holds) {
                    failed = part;
                }
            }
        }

        int result(int what) {
            return what == 0 ? failed : what == 1 ? bargains : gained;
        }

        private boolean moves(int p, int direction) {
            int next = market.lawfulStep(spot, p, direction);
            if (next == NONE) {
                return false;
            }
            spot[p] = next;
            return true;
        }

        private boolean strikes(int a, int b) {
            if (hasDone[a] || hasDone[b] || market.verdict(spot, a, b, NONE) != IT_BINDS) {
                return false;
            }
            hasDone[a] = true;
            hasDone[b] = true;
            bargains++;
            gained += market.crowd.gain(a, b);
            return true;
        }
    }

    /** AT ONCE: tries all rows from the least on, and keeps the first of the best ones. */
    private static final class Match {
        private final Market market;
        private final boolean[] canBind = new boolean[MOST_PEOPLE * MOST_PEOPLE];
        private final int[] mate = new int[MOST_PEOPLE];
        private final int[] bestMate = new int[MOST_PEOPLE];
        private int mostPairs = 0;
        private int mostGain = 0;

        Match(Market market) {
            this.market = market;
        }

        void solve() {
            int people = market.crowd.size;
            for (int a = 0; a < people; a++) {
                mate[a] = NONE;
                for (int b = a + 1; b < people; b++) {
                    canBind[a * MOST_PEOPLE + b] = market.verdict(market.crowd.spot, a, b, NONE) == IT_BINDS;
                }
            }
            mostPairs = NONE;
            mostGain = NONE;
            choose(0, people, 0, 0);
        }

        /** Chooses for one and all behind; free: how many of these are in no pair yet. */
        private void choose(int p, int free, int made, int gained) {
            if (made + free / 2 < mostPairs) {
                return;
            }
            int people = market.crowd.size;
            if (p >= people) {
                keepIfBetter(made, gained);
                return;
            }
            if (mate[p] != NONE) {
                choose(p + 1, free, made, gained);
                return;
            }
            for (int q = p + 1; q < people; q++) {
                if (mate[q] == NONE && canBind[p * MOST_PEOPLE + q]) {
                    mate[p] = q;
                    mate[q] = p;
                    choose(p + 1, free - 2, made + 1, gained + market.crowd.gain(p, q));
                    mate[p] = NONE;
                    mate[q] = NONE;
                }
            }
            choose(p + 1, free - 1, made, gained);
        }

        private void keepIfBetter(int made, int gained) {
            if (made > mostPairs || made == mostPairs && gained > mostGain) {
                mostPairs = made;
                mostGain = gained;
                System.arraycopy(mate, 0, bestMate, 0, MOST_PEOPLE);
            }
        }
    }

    /** COMES: how far each SPOT is from one where it BINDS, told backwards from these. */
    private static final class Walk {
        private static final int UNKNOWN = -1, CLOSED = -2;

        private final Market market;
        private final int[] spots = new int[MOST_PEOPLE];
        private final int[] steps = new int[SPOTS];
        private final int[] queue = new int[SPOTS];
        private int queued = 0;

        Walk(Market market) {
            this.market = market;
        }

        /** The fewest STEPS; NONE. */
        int search(int a, int b) {
            if (!market.crowd.canTrade(a, b)) {
                return NONE;
            }
            int start = market.crowd.spot[a];
            System.arraycopy(market.crowd.spot, 0, spots, 0, MOST_PEOPLE);
            Arrays.fill(steps, UNKNOWN);
            queued = 0;
            queueGoals(a, b, start);
            for (int head = 0; head < SPOTS && head < queued && steps[start] == UNKNOWN; head++) {
                queueNeighbours(a, queue[head], start);
            }
            return steps[start] == UNKNOWN ? NONE : steps[start];
        }

        /** The i-th DIRECTION of the least row, behind a search that came somewhere. */
        int direction(int start, int i) {
            int spot = start;
            int last = NONE;
            for (int k = 0; k <= i && k < SPOTS; k++) {
                last = leastDirection(spot);
                if (last == NONE) {
                    return NONE;
                }
                spot = neighbour(spot, last);
            }
            return last;
        }

        private int leastDirection(int spot) {
            if (steps[spot] <= 0) {
                return NONE;
            }
            for (int d = 0; d < DIRECTIONS; d++) {
                int next = neighbour(spot, d);
                if (next != NONE && steps[next] == steps[spot] - 1) {
                    return d;
                }
            }
            return NONE;
        }

        private void queueGoals(int a, int b, int start) {
            for (int spot = 0; spot < SPOTS; spot++) {
                spots[a] = spot;
                if (market.verdict(spots, a, b, NONE) == IT_BINDS && isOpen(a, spot, start)) {
                    enqueue(spot, 0);
                }
            }
        }

        private void queueNeighbours(int a, int spot, int start) {
            for (int d = 0; d < DIRECTIONS; d++) {
                int next = neighbour(spot, d);
                if (next == NONE || steps[next] != UNKNOWN) {
                    continue;
                }
                if (isOpen(a, next, start)) {
                    enqueue(next, steps[spot] + 1);
                } else {
                    steps[next] = CLOSED;
                }
            }
        }

        /** Where one starts from need not be LAWFUL: no STEP leads there. */
        private boolean isOpen(int a, int spot, int start) {
            return spot == start || market.mayStand(spots, a, spot);
        }

        private void enqueue(int spot, int distance) {
            if (queued < SPOTS) {
                steps[spot] = distance;
                queue[queued] = spot;
                queued++;
            }
        }
    }

    private static final class Posts {
        private final int[] spot = new int[MOST_POSTS];
        private int size = 0;

        boolean isFull() {
            return size >= MOST_POSTS;
        }

        boolean has(int a) {
            return a >= 0 && a < size;
        }

        int add(int where) {
            if (isFull()) {
                return NONE;
            }
            spot[size] = where;
            size++;
            return size - 1;
        }

        int clear() {
            int had = size;
            size = 0;
            return had;
        }

        int pairsAt(int dueSquare) {
            int seen = 0;
            for (int a = 0; a < size; a++) {
                for (int b = a + 1; b < size; b++) {
                    if (between(spot[a], spot[b]) == dueSquare) {
                        seen++;
                    }
                }
            }
            return seen;
        }

        int seenFrom(int where, int dueSquare) {
            int seen = 0;
            for (int a = 0; a < size; a++) {
                if (between(spot[a], where) == dueSquare) {
                    seen++;
                }
            }
            return seen;
        }

        int bestSpot(int dueSquare) {
            int best = 0;
            int most = 0;
            for (int where = 0; where < SPOTS; where++) {
                int seen = seenFrom(where, dueSquare);
                if (seen > most) {
                    most = seen;
                    best = where;
                }
            }
            return best;
        }

        int commonSpots(int a, int b, int dueSquare) {
            int common = 0;
            for (int where = 0; where < SPOTS; where++) {
                if (isCommon(where, a, b, dueSquare)) {
                    common++;
                }
            }
            return common;
        }

        /** The i-th SPOT of BOTH; NONE beyond. */
        int commonSpot(int a, int b, int dueSquare, int i) {
            int left = i;
            for (int where = 0; where < SPOTS; where++) {
                if (isCommon(where, a, b, dueSquare)) {
                    if (left == 0) {
                        return where;
                    }
                    left--;
                }
            }
            return NONE;
        }

        private boolean isCommon(int where, int a, int b, int dueSquare) {
            return between(spot[a], where) == dueSquare && between(spot[b], where) == dueSquare;
        }
    }

    /** BROKER: where one who buys and sells himself would stand best. */
    private static final class Stall {
        private final Market market;
        private final boolean[] isAlone = new boolean[MOST_PEOPLE];
        /** Of each THING the greatest PRICE of who buys, the least of who sells; NONE: nobody does. */
        private final int[] dearest = new int[THINGS];
        private final int[] cheapest = new int[THINGS];
        private int bestSpot = NONE;
        private int mostProfit = 0;

        Stall(Market market) {
            this.market = market;
        }

        void seek() {
            for (int p = 0; p < market.crowd.size; p++) {
                isAlone[p] = market.firstNearer(market.crowd.spot, p, p, NONE) == NONE;
            }
            bestSpot = NONE;
            mostProfit = 0;
            for (int spot = 0; spot < SPOTS; spot++) {
                int profit = profitOn(spot);
                if (profit > mostProfit) {
                    mostProfit = profit;
                    bestSpot = spot;
                }
            }
        }

        /** 0 too where no broker may stand. */
        private int profitOn(int spot) {
            Crowd crowd = market.crowd;
            int due = market.square(DUE);
            int clear = market.square(CLEAR);
            Arrays.fill(dearest, NONE);
            Arrays.fill(cheapest, NONE);
            for (int p = 0; p < crowd.size; p++) {
                int away = between(spot, crowd.spot[p]);
                if (away < clear) {
                    return 0;
                }
                if (away == due && isAlone[p]) {
                    ask(crowd.trade[p], crowd.thing[p], crowd.price[p]);
                }
            }
            return margins();
        }

        private void ask(int trade, int thing, int price) {
            if (trade == BUYS) {
                dearest[thing] = Math.max(dearest[thing], price);
            }
            if (trade == SELLS && (cheapest[thing] == NONE || price < cheapest[thing])) {
                cheapest[thing] = price;
            }
        }

        private int margins() {
            int sum = 0;
            for (int thing = 0; thing < THINGS; thing++) {
                if (cheapest[thing] != NONE && dearest[thing] > cheapest[thing]) {
                    sum += dearest[thing] - cheapest[thing];
                }
            }
            return sum;
        }
    }

    private static final class Sheet {
        private final int[] items = new int[MOST_ITEMS];
        private boolean lost = true;
        private int form = 0;
        private int size = 0;

        void renew(int newForm, int n) {
            lost = false;
            form = newForm;
            size = n;
            Arrays.fill(items, 0);
        }

        /** The FINDING that stands in the way of an item; 0: none. */
        int findingAt(int asForm, int i) {
            if (lost) {
                return NULL;
            }
            if (asForm != form) {
                return CAST;
            }
            return i < 0 || i >= size ? INDEX : 0;
        }

        boolean hasRange(int from, int n) {
            return from >= 0 && n >= 0 && from <= size - n;
        }

        void store(int i, int v) {
            if (i >= 0 && i < size) {
                items[i] = form == BYTES ? (byte) v : form == SHORTS ? (short) v : v;
            }
        }
    }
}
