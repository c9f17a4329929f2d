import java.util.Random;

/** Long runs of calls with arguments of all sorts: each answer is to be that of PlainModel. */
public final class StormTest {
    private static final int RUNS = 6000;
    /** No step takes more than 165 calls, and nothing is promised behind the 512th. */
    private static final int CALLS = 512 - 165;
    private static int wrong = 0;

    private final Random random;
    private final ToLiftToStrike lift = new ToLiftToStrike();
    private final PlainModel plain = new PlainModel();
    private final int oddness;
    private final StringBuilder told = new StringBuilder();
    private int calls = 0;

    private StormTest(long seed) {
        random = new Random(seed);
        oddness = random.nextInt(3) * 6 + 4;
    }

    /** Mostly from..to, at times one beyond, at times far off. */
    private int some(int from, int to) {
        int odd = random.nextInt(100);
        if (odd >= oddness) {
            return from + random.nextInt(to - from + 1);
        }
        switch (odd % 4) {
            case 0: return from - 1;
            case 1: return to + 1;
            case 2: return random.nextInt();
            default: return random.nextBoolean() ? Integer.MAX_VALUE : Integer.MIN_VALUE;
        }
    }

    private boolean due(String call, long got, long want) {
        calls++;
        told.append(call).append(' ').append(got).append('\n');
        if (got != want) {
            wrong++;
            if (wrong < 5) {
                System.out.println(told);
                System.out.println(call + " answered " + got + ", due is " + want);
            }
        }
        return got == want;
    }

    private boolean fill(int s, int sort, String text) {
        boolean fine = due("row " + s + " " + sort + " " + text.length(), lift.row(s, sort, text.length()), plain.row(s, sort, text.length()));
        for (int i = 0; i < text.length() && fine; i++) {
            long v = text.charAt(i);
            if (sort == 3 && random.nextInt(4) == 0) {
                v += (long) random.nextInt() << 32;
            }
            fine = due("set " + s + " " + i + " " + v, lift.set(s, i, v), plain.set(s, i, v));
        }
        return fine;
    }

    private String number(int from, int to) {
        String digits = Integer.toString(Math.max(0, some(from, to)));
        return random.nextInt(12) == 0 ? "0" + digits : random.nextInt(40) == 0 ? "000" + digits : digits;
    }

    private String item() {
        switch (random.nextInt(9)) {
            case 0: case 1: return "player " + number(0, 6) + " " + number(0, 9);
            case 2: case 3: return "on " + number(0, 5) + " " + number(0, Math.max(0, plain.now.players.size() - 1));
            case 4: return "turn";
            case 5: return random.nextBoolean() ? "block " + number(0, 60) : "break " + number(0, 1000);
            case 6: return "serve " + number(0, 5) + " " + number(0, 9);
            case 7: return "goal " + number(1, 25);
            default: return "rally " + number(0, 1);
        }
    }

    private String text() {
        StringBuilder text = new StringBuilder(item());
        for (int i = random.nextInt(7); i > 0; i--) {
            text.append(';').append(item());
        }
        int odd = random.nextInt(10);
        int at = random.nextInt(text.length());
        if (odd == 0) text.setLength(at);
        if (odd == 1) text.setCharAt(at, "player on0;9x ".charAt(random.nextInt(14)));
        if (odd == 2) text.insert(at, "0; 1e".charAt(random.nextInt(5)));
        if (odd == 3) text.deleteCharAt(at);
        return text.substring(0, Math.min(160, text.length()));
    }

    private String zerosAndOnes() {
        StringBuilder row = new StringBuilder();
        for (int i = random.nextInt(40); i > 0; i--) {
            row.append((char) (random.nextInt(200) == 0 ? 2 : random.nextInt(2)));
        }
        return row.toString();
    }

    private String playersSet() {
        StringBuilder row = new StringBuilder();
        int few = 1 + random.nextInt(12);
        for (int i = random.nextInt(12); i > 0; i--) {
            int at = random.nextInt(3);
            boolean open = random.nextInt(3) > 0 && plain.now.floor[at] >= 0;
            row.append((char) (open ? plain.now.floor[at] : random.nextInt(few)));
        }
        return row.toString();
    }

    /** A whole six at first, in most runs, or the numbers would mostly be nought. */
    private boolean six() {
        boolean fine = true;
        for (int i = 4 + random.nextInt(8); i >= 0 && fine; i--) {
            int kind = random.nextInt(7);
            int a = random.nextInt(10);
            fine = due("player " + kind + " " + a, lift.player(kind, a), plain.player(kind, a));
        }
        for (int place = 0; place < 6 && fine; place++) {
            int who = random.nextInt(plain.now.players.size());
            fine = due("put " + place + " " + who, lift.put(place, who), plain.put(place, who));
        }
        int block = random.nextInt(61);
        return fine && due("ask 0 " + block, lift.ask(0, block), plain.ask(0, block));
    }

    private boolean texts() {
        int s = random.nextInt(8);
        if (!fill(s, random.nextInt(4), text())) return false;
        return due("team " + s, lift.team(s), plain.team(s)) && due("fault", lift.fault(), plain.fault());
    }

    private boolean toldRallies() {
        int s = random.nextInt(8);
        if (!fill(s, random.nextInt(4), zerosAndOnes())) return false;
        boolean fine = true;
        for (int i = 0; i < 4 && fine; i++) {
            int n = some(0, plain.rows[s].length);
            int what = some(0, 5);
            int sort = some(0, 1);
            fine = due("judge " + s + " " + n, lift.judge(s, n), plain.judge(s, n))
                && due("behind " + n + " " + what, lift.behind(s, n, what), plain.behind(s, n, what))
                && due("run " + n + " " + sort, lift.run(s, n, sort), plain.run(s, n, sort));
        }
        return fine;
    }

    private boolean toldSets() {
        int s = random.nextInt(8);
        if (!fill(s, random.nextInt(4), playersSet())) return false;
        boolean fine = true;
        for (int i = 0; i < 4 && fine; i++) {
            int n = some(0, plain.rows[s].length);
            int what = some(0, 2);
            fine = due("whom " + s + " " + n + " " + what, lift.whom(s, n, what), plain.whom(s, n, what));
        }
        return fine;
    }

    private boolean players() {
        int a = some(0, 6);
        int b = some(0, 9);
        int c = some(0, 11);
        int d = some(0, 5);
        switch (random.nextInt(9)) {
            case 0: return due("player " + a + " " + b, lift.player(a, b), plain.player(a, b));
            case 1: return due("playerOf " + c + " " + d, lift.playerOf(c, d), plain.playerOf(c, d));
            case 2: return due("at " + d, lift.at(d), plain.at(d));
            case 3: case 4: case 5: {
                int who = random.nextInt(6) == 0 ? -1 : some(-1, plain.now.players.size() - 1);
                return due("put " + d + " " + who, lift.put(d, who), plain.put(d, who));
            }
            case 6: return due("turn " + d, lift.turn(d), plain.turn(d));
            case 7: {
                int x = random.nextInt();
                int act = some(0, 2);
                boolean fine = due("act " + c + " " + act + " " + x, lift.act(c, act, x), plain.act(c, act, x));
                for (int i = -1; i < 21 && fine; i++) fine = due("trace " + i, lift.trace(i), plain.trace(i));
                return fine && due("status 10", lift.status(10), plain.status(10));
            }
            default: {
                int s = some(0, 7);
                int p = some(-1, 11);
                return due("show " + s + " " + p, lift.show(s, p), plain.show(s, p))
                    && due("says " + s + " " + a, lift.says(s, a), plain.says(s, a));
            }
        }
    }

    private boolean shelves() {
        int s = some(0, 7);
        int t = some(0, 7);
        int i = some(0, 12);
        int j = some(0, 12);
        int n = some(0, 8);
        long v = random.nextLong() >> random.nextInt(64);
        switch (random.nextInt(6)) {
            case 0: {
                int sort = some(0, 3);
                int size = random.nextInt(3) == 0 ? some(0, 160) : some(8, 20);
                return due("row " + s + " " + sort + " " + size, lift.row(s, sort, size), plain.row(s, sort, size));
            }
            case 1: case 2: return due("set " + s + " " + i + " " + v, lift.set(s, i, v), plain.set(s, i, v));
            case 3: {
                t = random.nextInt(3) == 0 ? s : t;
                return due("copy " + s + " " + t + " " + i + " " + j + " " + n, lift.copy(s, t, i, j, n), plain.copy(s, t, i, j, n));
            }
            case 4: return due("element " + s + " " + i, lift.element(s, i), plain.element(s, i));
            default: return due("holds " + s, lift.holds(s), plain.holds(s));
        }
    }

    private boolean rallyOf() {
        int r = some(0, 1);
        int place = some(0, 5);
        int force = some(0, 9);
        switch (random.nextInt(6)) {
            case 0: return due("good " + place + " " + force, lift.good(place, force), plain.good(place, force));
            case 1: return due("open " + r, lift.open(r), plain.open(r));
            case 2: return due("value " + r, lift.value(r), plain.value(r));
            case 3: return due("often " + r, lift.often(r), plain.often(r));
            case 4: return due("blocked " + r + " " + place, lift.blocked(r, place), plain.blocked(r, place));
            default: return due("side " + place + " " + force, lift.side(place, force), plain.side(place, force));
        }
    }

    private boolean comesOfIt() {
        int place = some(0, 5);
        int one = some(0, 1);
        int goal = plain.now.asked[4];
        switch (random.nextInt(7)) {
            case 0: return due("worth", lift.worth(), plain.worth());
            case 1: return due("hard", lift.hard(), plain.hard());
            case 2: return due("bold " + place, lift.bold(place), plain.bold(place));
            case 3: return due("strong " + one, lift.strong(one), plain.strong(one));
            case 4: {
                int us = some(0, goal);
                int them = some(0, goal);
                return due("chance " + us + " " + them + " " + one + " " + place, lift.chance(us, them, one, place), plain.chance(us, them, one, place));
            }
            case 5: return due("begin " + one, lift.begin(one), plain.begin(one));
            default: return random.nextInt(3) > 0 || due("change", lift.change(), plain.change());
        }
    }

    private boolean inTruth() {
        int one = some(0, 1);
        int n = some(1, 200);
        int goal = plain.now.asked[4];
        switch (random.nextInt(9)) {
            case 0: case 1: return due("rally " + one, lift.rally(one), plain.rally(one));
            case 2: return due("rallies " + n, lift.rallies(n), plain.rallies(n));
            case 3: return random.nextInt(4) > 0 || due("anew", lift.anew(), plain.anew());
            case 4: return due("seed " + n, lift.seed(n), plain.seed(n));
            case 5: return due("image", lift.image(), plain.image());
            case 6: return random.nextInt(3) > 0 || due("restore", lift.restore(), plain.restore());
            case 7: {
                int what = some(0, 4);
                int v = what >= 0 && what <= 4 ? some(PlainModel.ASK[what][0], PlainModel.ASK[what][1]) : 1;
                return due("ask " + what + " " + v, lift.ask(what, v), plain.ask(what, v));
            }
            default: {
                int us = some(0, goal - 1);
                int them = some(0, goal - 1);
                return due("score " + us + " " + them + " " + one, lift.score(us, them, one), plain.score(us, them, one));
            }
        }
    }

    private boolean everything() {
        for (int what = -1; what < 23; what++) {
            if (!due("status " + what, lift.status(what), plain.status(what))) return false;
        }
        for (int place = 0; place < 6; place++) {
            if (!due("at " + place, lift.at(place), plain.at(place))) return false;
        }
        for (int s = -1; s < 9; s++) {
            if (!due("holds " + s, lift.holds(s), plain.holds(s))) return false;
        }
        int s = some(0, 7);
        for (int i = -1; i < 40; i++) {
            if (!due("element " + s + " " + i, lift.element(s, i), plain.element(s, i))) return false;
        }
        return due("fault", lift.fault(), plain.fault()) && due("trace 0", lift.trace(0), plain.trace(0));
    }

    private boolean step() {
        switch (random.nextInt(16)) {
            case 0: return texts();
            case 1: return toldRallies();
            case 2: return toldSets();
            case 3: case 4: case 5: case 6: return players();
            case 7: case 8: return shelves();
            case 9: case 10: case 11: return rallyOf();
            case 12: case 13: return comesOfIt();
            case 14: return inTruth();
            default: return everything();
        }
    }

    public static void main(String[] args) {
        for (int run = 0; run < RUNS; run++) {
            StormTest storm = new StormTest(run);
            boolean fine = run % 4 == 0 || storm.six();
            while (storm.calls < CALLS && fine) {
                fine = storm.step();
            }
        }
        System.out.println(wrong == 0 ? "the storm is over" : wrong + " runs went wrong");
        if (wrong > 0) System.exit(1);
    }
}
