import java.util.ArrayList;
import java.util.HashMap;
import java.util.List;
import java.util.Map;

/**
 * The document told over once more, slowly and with the Java library, by other ways than the class:
 * numbers are tried one after the other, chances are remembered by score, texts go sign by sign.
 */
final class PlainModel {
    static final int[] ABOVE = {-1, 0, 0, 1, 0, 1, 4};
    static final int[][] ASK = {{0, 60}, {0, 5}, {0, 9}, {0, 1000}, {1, 25}};
    static final String[] WORDS = {"player", "on", "turn", "block", "serve", "break", "goal", "rally"};

    static final class State {
        List<int[]> players = new ArrayList<>();
        int[] floor = {-1, -1, -1, -1, -1, -1};
        int[] asked = {30, 5, 3, 400, 15};
        int[] points = {0, 0};
        int[] sets = {0, 0};
        int serves = 1;
        int rallies = 0;
        int seed = 1;

        State again() {
            State s = new State();
            s.players = new ArrayList<>(players);
            s.floor = floor.clone();
            s.asked = asked.clone();
            s.points = points.clone();
            s.sets = sets.clone();
            s.serves = serves;
            s.rallies = rallies;
            s.seed = seed;
            return s;
        }

        int kind(int p) { return players.get(p)[0]; }
        int a(int p) { return players.get(p)[1]; }

        int place(int p) {
            int at = -1;
            for (int i = 0; i < 6; i++) if (floor[i] == p) at = i;
            return at;
        }

        int skill(int p) {
            int a = a(p);
            switch (kind(p)) {
                case 0: case 2: return 40 + a + a;
                case 1: case 5: return 30 + a;
                case 3: return 25 + a;
                case 4: return 50 + a + a + a;
                default: return Math.min(100, 60 + 4 * a);
            }
        }

        int blow(int p, int good) {
            int a = a(p);
            switch (kind(p)) {
                case 0: return 30 + a;
                case 1: return 45 + 2 * a;
                case 2: return 20 + a;
                case 3: return 55 + 2 * a;
                case 4: return 25 + a;
                case 5: return (good == 1 ? 50 : 35) + 2 * a;
                default: return 0;
            }
        }

        void turn() {
            int[] next = new int[6];
            for (int i = 0; i < 6; i++) next[(i + 1) % 6] = floor[i];
            floor = next;
        }

        int put(int place, int p) {
            int was = floor[place];
            for (int i = 0; i < 6; i++) if (p >= 0 && floor[i] == p) floor[i] = -1;
            floor[place] = p;
            return was;
        }

        List<Integer> open(int good) {
            List<Integer> places = new ArrayList<>();
            for (int i = 0; i < (good == 1 ? 3 : 1); i++) if (floor[i] >= 0) places.add(i);
            return places;
        }

        int value(int good) {
            for (int v = 0; ; v++) {
                int over = 0;
                for (int place : open(good)) over += Math.max(0, 10 * blow(floor[place], good) - v);
                if (over <= 10 * asked[0]) return v;
            }
        }

        int often(int good) {
            int v = value(good);
            int bits = 0;
            int first = -1;
            for (int place : open(good)) {
                int b = blow(floor[place], good);
                if (10 * b > v) bits += 1 << place;
                if (first < 0 || b > blow(floor[first], good)) first = place;
            }
            return bits == 0 && first >= 0 ? 1 << first : bits;
        }

        int blocked(int good, int place) {
            if ((often(good) >> place & 1) == 0 || asked[0] == 0) return 0;
            return (10 * blow(floor[place], good) - value(good)) * 100 / asked[0];
        }

        int good(int place, int force) {
            return floor[place] < 0 ? 0 : Math.max(0, skill(floor[place]) - 5 * force);
        }

        int side(int place, int force) {
            int g = good(place, force);
            long sum = (long) g * value(1) + (long) (100 - g) * value(0);
            return (int) (30 * force + (100 - 3 * force) * sum / 10000);
        }

        int p() { return serves == 0 ? asked[3] : side(asked[1], asked[2]); }

        boolean play(int point) {
            boolean turned = serves == 1 && point == 1;
            if (turned) turn();
            points[1 - point]++;
            serves = 1 - point;
            rallies++;
            if (points[1 - point] == asked[4]) {
                sets[1 - point]++;
                points[0] = points[1] = 0;
                serves = point;
            }
            return turned;
        }

        void ask(int what, int v) {
            asked[what] = v;
            if (what == 4) points = new int[] {0, 0};
        }

        /** The CHANCE from here, the floor turned on as the rallies go. */
        long chance(int us, int them, int who, int turns) {
            int[] sides = new int[6];
            State s = again();
            for (int t = 0; t < 6; t++) {
                sides[t] = s.side(asked[1], asked[2]);
                s.turn();
            }
            return chance(us, them, who, turns, sides, new HashMap<>());
        }

        private long chance(int us, int them, int who, int turns, int[] sides, Map<Integer, Long> known) {
            if (us == asked[4]) return 1000000;
            if (them == asked[4]) return 0;
            int key = ((us * 32 + them) * 2 + who) * 6 + turns;
            Long k = known.get(key);
            if (k != null) return k;
            long p = who == 0 ? asked[3] : sides[turns];
            long won = chance(us + 1, them, 0, (turns + who) % 6, sides, known);
            long lost = chance(us, them + 1, 1, turns, sides, known);
            long answer = (p * won + (1000 - p) * lost) / 1000;
            known.put(key, answer);
            return answer;
        }
    }

    State now = new State();
    State image = null;
    int[] held = {-1, -1, -1, -1, -1, -1, -1, -1};
    long[][] rows = new long[8][];
    int[] refusals = new int[8];
    int fault = -1;
    List<Integer> trace = new ArrayList<>();

    int no(int n) { refusals[-n]++; return n; }
    int noTen(int n) { refusals[-n]++; return n - 10; }
    static boolean in(int v, int from, int to) { return from <= v && v <= to; }
    boolean isPlayer(int p) { return in(p, 0, now.players.size() - 1); }
    boolean under(int kind, int of) { return kind == of || kind > 0 && under(ABOVE[kind], of); }

    int rowNo(int s) {
        if (!in(s, 0, 7)) return -1;
        if (in(held[s], 0, 99)) return -2;
        return held[s] < 0 ? -3 : 0;
    }

    int toldNo(int s, int n) {
        int no = rowNo(s);
        return no < 0 ? no : n < 0 ? -4 : n > rows[s].length ? -5 : 0;
    }

    int row(int s, int sort, int n) {
        if (!in(s, 0, 7)) return no(-1);
        if (n < 0) return no(-4);
        if (!in(sort, 0, 3)) return no(-6);
        if (n > 160) return no(-7);
        held[s] = 100 + sort;
        rows[s] = new long[n];
        return 1;
    }

    int set(int s, int i, long v) {
        if (rowNo(s) < 0) return no(rowNo(s));
        if (!in(i, 0, rows[s].length - 1)) return no(-5);
        int bits = 8 << held[s] - 100;
        rows[s][i] = v << 64 - bits >> 64 - bits;
        return 1;
    }

    int copy(int p, int q, int i, int j, int n) {
        for (int no = -1; no >= -3; no--) {
            if (rowNo(p) == no || rowNo(q) == no) return no(no);
        }
        if (held[p] != held[q]) return no(-2);
        if (n < 0) return no(-4);
        if (i < 0 || j < 0 || (long) i + n > rows[p].length || (long) j + n > rows[q].length) return no(-5);
        long[] ahead = rows[p].clone();
        for (int k = 0; k < n; k++) rows[q][j + k] = ahead[i + k];
        return 1;
    }

    long element(int s, int i) { return rowNo(s) < 0 || !in(i, 0, rows[s].length - 1) ? 0 : rows[s][i]; }

    int show(int s, int p) {
        if (!in(s, 0, 7) || p != -1 && !isPlayer(p)) return no(-1);
        held[s] = p;
        return p < 0 ? 0 : 1;
    }

    int holds(int s) { return in(s, 0, 7) ? held[s] : -1; }

    int says(int s, int kind) {
        if (!in(s, 0, 7) || !in(kind, 0, 6)) return no(-1);
        int p = held[s];
        if (p >= 100 || p >= 0 && !under(now.kind(p), kind)) return no(-2);
        if (p < 0) return no(-3);
        if (kind == 0) return now.place(p);
        if (kind == 2) return now.a(p);
        return kind == 4 || kind == 6 ? now.skill(p) : now.blow(p, 1);
    }

    int player(int kind, int a) {
        if (!in(kind, 0, 6)) return no(-1);
        if (!in(a, 0, 9)) return no(-6);
        if (now.players.size() == 12) return no(-7);
        now.players.add(new int[] {kind, a});
        return now.players.size() - 1;
    }

    int playerOf(int p, int what) {
        if (!isPlayer(p) || !in(what, 0, 5)) return noTen(-5);
        return new int[] {now.kind(p), now.a(p), now.place(p), now.skill(p), now.blow(p, 0), now.blow(p, 1)}[what];
    }

    int at(int place) { return in(place, 0, 5) ? now.floor[place] : noTen(-1); }
    int put(int place, int p) { return in(place, 0, 5) && (p == -1 || isPlayer(p)) ? now.put(place, p) : noTen(-1); }

    int turn(int n) {
        if (!in(n, 0, 5)) return noTen(-6);
        for (int i = 0; i < n; i++) now.turn();
        return now.floor[0];
    }

    int ask(int what, int v) {
        if (!in(what, 0, 4) || !in(v, ASK[what][0], ASK[what][1])) return no(-6);
        int was = now.asked[what];
        now.ask(what, v);
        return was;
    }

    int score(int us, int them, int serves) {
        if (!in(us, 0, now.asked[4] - 1) || !in(them, 0, now.asked[4] - 1) || !in(serves, 0, 1)) return no(-6);
        now.points = new int[] {us, them};
        now.serves = serves;
        return 1;
    }

    int team(int s) {
        if (rowNo(s) < 0) return no(rowNo(s));
        PlainText t = new PlainText(now.again(), rows[s]);
        fault = t.fault;
        if (fault >= 0) return no(-6);
        now = t.team;
        return t.items;
    }

    int fault() { return fault; }
    int good(int place, int force) { return !in(place, 0, 5) ? no(-1) : !in(force, 0, 9) ? no(-6) : now.good(place, force); }

    int open(int r) {
        if (!in(r, 0, 1)) return no(-6);
        int bits = 0;
        for (int place : now.open(r)) bits |= 1 << place;
        return bits;
    }

    int value(int r) { return in(r, 0, 1) ? now.value(r) : no(-6); }
    int often(int r) { return in(r, 0, 1) ? now.often(r) : no(-6); }
    int blocked(int r, int place) { return !in(place, 0, 5) ? no(-1) : !in(r, 0, 1) ? no(-6) : now.blocked(r, place); }
    int side(int place, int force) { return !in(place, 0, 5) ? no(-1) : !in(force, 0, 9) ? no(-6) : now.side(place, force); }
    int worth() { return now.value(1) - now.value(0); }

    int hard() {
        int best = 0;
        for (int i = 0; i < 60; i++) if (now.side(i / 10, i % 10) < now.side(best / 10, best % 10)) best = i;
        return best;
    }

    int bold(int place) {
        if (!in(place, 0, 5)) return no(-1);
        int best = 9;
        for (int f = 9; f >= 0; f--) if (now.side(place, f) >= now.side(place, best)) best = f;
        return best;
    }

    int strong(int what) {
        if (!in(what, 0, 1)) return no(-5);
        int best = 0;
        int bestValue = 0;
        State s = now.again();
        for (int t = 0; t < 6; t++) {
            int v = what == 0 ? s.value(1) : -s.value(1);
            if (t == 0 || v > bestValue) { best = t; bestValue = v; }
            s.turn();
        }
        return best;
    }

    int chance(int us, int them, int serves, int turns) {
        int goal = now.asked[4];
        if (!in(us, 0, goal) || !in(them, 0, goal) || us == goal && them == goal) return no(-6);
        if (!in(serves, 0, 1) || !in(turns, 0, 5)) return no(-6);
        return (int) now.chance(us, them, serves, turns);
    }

    int begin(int serves) {
        if (!in(serves, 0, 1)) return no(-6);
        int best = 5;
        for (int t = 5; t >= 0; t--) {
            if (now.chance(0, 0, serves, t) >= now.chance(0, 0, serves, best)) best = t;
        }
        return best;
    }

    int change() {
        long greatest = now.chance(now.points[0], now.points[1], now.serves, 0);
        int best = -1;
        for (int place = 0; place < 6; place++) {
            for (int p = 0; p < now.players.size(); p++) {
                if (now.floor[place] < 0 || now.place(p) >= 0) continue;
                State s = now.again();
                s.put(place, p);
                long c = s.chance(s.points[0], s.points[1], s.serves, 0);
                if (c > greatest) { greatest = c; best = 100 * place + p; }
            }
        }
        return best;
    }

    int wrongAt(int s, int n) {
        for (int i = 0; i < n; i++) if ((int) rows[s][i] >>> 1 != 0) return i;
        return -1;
    }

    int judge(int s, int n) { return toldNo(s, n) < 0 ? noTen(toldNo(s, n)) : wrongAt(s, n); }

    int behind(int s, int n, int what) {
        if (toldNo(s, n) < 0) return no(toldNo(s, n));
        if (!in(what, 0, 5)) return no(-5);
        if (wrongAt(s, n) >= 0) return no(-6);
        State t = now.again();
        int turns = 0;
        for (int i = 0; i < n; i++) if (t.play((int) rows[s][i])) turns++;
        int[] all = {t.points[0], t.points[1], t.serves, turns, t.sets[0] - now.sets[0], t.sets[1] - now.sets[1]};
        return all[what];
    }

    int run(int s, int n, int sort) {
        if (toldNo(s, n) < 0) return no(toldNo(s, n));
        if (!in(sort, 0, 1) || wrongAt(s, n) >= 0) return no(-6);
        int most = 0;
        for (int i = 0; i < n; i++) {
            int k = i;
            while (k < n && (int) rows[s][k] == sort) k++;
            most = Math.max(most, k - i);
        }
        return most;
    }

    int whom(int s, int n, int what) {
        if (toldNo(s, n) < 0) return noTen(toldNo(s, n));
        if (!in(what, 0, 2)) return noTen(-5);
        int[] times = new int[12];
        int others = 0;
        int byOften = 1;
        for (int i = 0; i < n; i++) if (!isPlayer((int) rows[s][i])) return noTen(-6);
        for (int i = 0; i < n; i++) {
            int p = (int) rows[s][i];
            times[p]++;
            if (i > 0 && p != (int) rows[s][i - 1]) others++;
            if (now.place(p) < 0 || (now.often(1) & 1 << now.place(p)) == 0) byOften = 0;
        }
        int best = 0;
        for (int p = 0; p < 12; p++) if (times[p] > times[best]) best = p;
        return what == 0 ? times[best] > 0 ? best : -1 : what == 1 ? others : byOften;
    }

    int rally(int point) {
        if (!in(point, 0, 1)) return no(-6);
        now.play(point);
        return now.points[0];
    }

    int rallies(int n) {
        if (!in(n, 1, 200)) return no(-6);
        int won = 0;
        for (int i = 0; i < n; i++) {
            now.seed = (int) ((long) now.seed * 1103515245L + 12345L);
            int draw = (int) ((now.seed & 0xffffffffL) / 65536 % 1000);
            int point = draw < now.p() ? 1 : 0;
            now.play(point);
            won += point;
        }
        return won;
    }

    int anew() {
        int sum = now.sets[0] + now.sets[1];
        now.sets = new int[] {0, 0};
        now.points = new int[] {0, 0};
        now.serves = 1;
        return sum;
    }

    int seed(int v) {
        int was = now.seed;
        now.seed = v;
        return was;
    }

    int act(int p, int act, int x) {
        trace = new ArrayList<>();
        if (!isPlayer(p) || !in(act, 0, 2)) return 0;
        return body(act, now.kind(p), now.kind(p), x, p, now.a(p));
    }

    private static final int[][] BODIES = {
        {10, 20, -1, -1, 51, -1, 70}, {11, -1, 30, 40, -1, -1, 71}, {12, -1, -1, -1, 50, 60, -1}};

    /** The body of an act from a KIND on upwards, of a PLAYER of the KIND own. */
    private int body(int act, int from, int own, int x, int m, int k) {
        int kind = from;
        while (BODIES[act][kind] < 0) kind = ABOVE[kind];
        int up = ABOVE[kind];
        trace.add(BODIES[act][kind]);
        switch (BODIES[act][kind]) {
            case 10: return x + m;
            case 11: return body(0, own, own, x, m, k) * 2;
            case 12: {
                int struck = body(1, own, own, x, m, k);
                return struck ^ body(0, own, own, x - k, m, k);
            }
            case 20: return body(0, up, own, x, m, k) + k;
            case 30: return body(1, up, own, x, m, k) * 3;
            case 40: return body(1, up, own, x + 1, m, k);
            case 50: return -body(2, up, own, x, m, k);
            case 51: return body(0, up, own, x, m, k) - m;
            case 60: return body(2, up, own, x, m, k) ^ 5;
            case 70: return body(0, up, own, x, m, k) * 2;
            default: return body(1, up, own, x - k, m, k);
        }
    }

    int trace(int i) { return in(i, 0, Math.min(20, trace.size()) - 1) ? trace.get(i) : -1; }

    int image() {
        image = now.again();
        return now.players.size();
    }

    int restore() {
        if (image == null) return no(-6);
        now = image.again();
        for (int s = 0; s < 8; s++) if (held[s] < 100 && held[s] >= now.players.size()) held[s] = -1;
        return now.players.size();
    }

    int status(int what) {
        int on = 0;
        for (int p : now.floor) if (p >= 0) on++;
        if (in(what, 11, 17)) return refusals[what - 10];
        if (in(what, 18, 21)) return now.asked[what - 17];
        if (!in(what, 0, 10)) return -1;
        return new int[] {now.players.size(), on, now.points[0], now.points[1], now.serves, now.sets[0], now.sets[1],
            now.rallies, now.asked[0], now.seed, trace.size()}[what];
    }
}
