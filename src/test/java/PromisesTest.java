/** Each promise of the document by itself: ordinary inputs, the edges it names, wrong inputs. */
public final class PromisesTest {
    /** STRIKER 4, TALL 5, QUICK 6, LIFTER 7, SMALL 8, LIBERO 9 at PLACES 0 to 5, PLAYER 3 beside them. */
    private static final String SEVEN = "player 1 4;player 3 5;player 5 6;player 2 7;player 4 8;player 6 9;player 0 3;"
        + "on 0 0;on 1 1;on 2 2;on 3 3;on 4 4;on 5 5";
    private static final String TWELVE = "player 0 0;player 0 1;player 0 2;player 0 3;player 0 4;player 0 5;"
        + "player 1 0;player 1 1;player 1 2;player 1 3;player 1 4;player 1 5";
    private static int wrong = 0;
    private static int promise = 0;

    private static void due(String what, long got, long want) {
        if (got != want) {
            wrong++;
            System.out.println("promise " + promise + ": " + what + " answered " + got + ", due is " + want);
        }
    }

    /** A REFUSAL: the answer, and that it is counted once as number, and nothing else is. */
    private static void refused(ToLiftToStrike x, int[] ahead, String what, long got, int want) {
        int number = want < -10 ? want + 10 : want;
        due(what, got, want);
        for (int n = 1; n <= 7; n++) {
            ahead[n] += n == -number ? 1 : 0;
            due(what + ": refusals -" + n, x.status(10 + n), ahead[n]);
        }
    }

    private static int[] counts(ToLiftToStrike x) {
        int[] counts = new int[8];
        for (int n = 1; n <= 7; n++) counts[n] = x.status(10 + n);
        return counts;
    }

    private static void put(ToLiftToStrike x, int s, int sort, long... elements) {
        due("row", x.row(s, sort, elements.length), 1);
        for (int i = 0; i < elements.length; i++) due("set " + i, x.set(s, i, elements[i]), 1);
    }

    private static int text(ToLiftToStrike x, int s, String text) {
        long[] letters = new long[text.length()];
        for (int i = 0; i < letters.length; i++) letters[i] = text.charAt(i);
        put(x, s, 0, letters);
        return x.team(s);
    }

    private static ToLiftToStrike told(String... texts) {
        ToLiftToStrike x = new ToLiftToStrike();
        for (String text : texts) due("team", text(x, 7, text), text.split(";").length);
        return x;
    }

    private static void statuses(ToLiftToStrike x, int from, int... want) {
        for (int i = 0; i < want.length; i++) due("status(" + (from + i) + ")", x.status(from + i), want[i]);
    }

    private static void floor(ToLiftToStrike x, int... want) {
        for (int i = 0; i < 6; i++) due("at(" + i + ")", x.at(i), want[i]);
    }

    private static void promise1() {
        ToLiftToStrike x = new ToLiftToStrike();
        statuses(x, -1, -1, 0, 0, 0, 0, 1, 0, 0, 0, 30, 1, 0, 0, 0, 0, 0, 0, 0, 0, 5, 3, 400, 15, -1);
        floor(x, -1, -1, -1, -1, -1, -1);
        for (int s = 0; s < 8; s++) due("holds", x.holds(s), -1);
        due("fault", x.fault(), -1);
        due("trace", x.trace(0), -1);
        due("NONE", ToLiftToStrike.NONE, -1);
        int[] c = counts(x);
        refused(x, c, "restore", x.restore(), -6);
        due("two objects", new ToLiftToStrike().player(0, 0), 0);
        due("two objects", new ToLiftToStrike().player(0, 0), 0);
    }

    private static void promise2() {
        ToLiftToStrike x = new ToLiftToStrike();
        int[] c = counts(x);
        for (int sort = 0; sort < 4; sort++) {
            due("row", x.row(sort, sort, 3), 1);
            due("holds", x.holds(sort), 100 + sort);
        }
        due("row 160", x.row(7, 0, 160), 1);
        due("last", x.set(7, 159, 9), 1);
        due("row 0", x.row(6, 3, 0), 1);
        due("holds 6", x.holds(6), 103);
        due("a new row is noughts", x.row(7, 0, 160) + x.element(7, 159), 1);
        refused(x, c, "empty", x.set(6, 0, 1), -5);
        refused(x, c, "shelf 8", x.row(8, 9, -1), -1);
        refused(x, c, "shelf -1", x.row(-1, 0, 1), -1);
        refused(x, c, "n -1", x.row(0, 9, -1), -4);
        refused(x, c, "sort 4", x.row(0, 4, 161), -6);
        refused(x, c, "sort -1", x.row(0, -1, 1), -6);
        refused(x, c, "n 161", x.row(0, 2, 161), -7);
        refused(x, c, "n great", x.row(0, 2, Integer.MAX_VALUE), -7);
        due("as it was", x.holds(0), 100);
        x.player(0, 0);
        x.show(0, 0);
        due("over a player", x.row(0, 1, 2), 1);
        due("holds", x.holds(0), 101);
    }

    private static void promise3() {
        ToLiftToStrike x = new ToLiftToStrike();
        long v = 0x123456789ABCDEF0L;
        long[] kept = {(byte) v, (short) v, (int) v, v};
        for (int sort = 0; sort < 4; sort++) {
            x.row(sort, sort, 2);
            due("set", x.set(sort, 1, v), 1);
            due("kept", x.element(sort, 1), kept[sort]);
            due("beside", x.element(sort, 0), 0);
        }
        x.set(0, 0, 128);
        due("a byte", x.element(0, 0), -128);
        x.player(0, 0);
        x.show(5, 0);
        int[] c = counts(x);
        refused(x, c, "shelf 8", x.set(8, 9, 0), -1);
        refused(x, c, "shelf -1", x.set(-1, 0, 0), -1);
        refused(x, c, "a player", x.set(5, 9, 0), -2);
        refused(x, c, "nothing", x.set(6, 9, 0), -3);
        refused(x, c, "beyond", x.set(1, 2, 0), -5);
        refused(x, c, "below", x.set(1, -1, 0), -5);
    }

    private static void promise4() {
        ToLiftToStrike x = new ToLiftToStrike();
        put(x, 0, 2, 1, 2, 3, 4, 5);
        put(x, 1, 2, 6, 7, 8);
        due("copy", x.copy(0, 1, 3, 1, 2), 1);
        due("0", x.element(1, 0), 6);
        due("1", x.element(1, 1), 4);
        due("2", x.element(1, 2), 5);
        due("within, up", x.copy(0, 0, 0, 1, 4), 1);
        for (int i = 1; i < 5; i++) due("up " + i, x.element(0, i), i);
        due("within, down", x.copy(0, 0, 1, 0, 4), 1);
        for (int i = 0; i < 4; i++) due("down " + i, x.element(0, i), i + 1);
        due("none at the end", x.copy(0, 1, 5, 3, 0), 1);
        x.player(0, 0);
        x.show(2, 0);
        x.row(3, 1, 9);
        int[] c = counts(x);
        refused(x, c, "p 8", x.copy(8, 2, 0, 0, -1), -1);
        refused(x, c, "q -1", x.copy(2, -1, 0, 0, -1), -1);
        refused(x, c, "p a player", x.copy(2, 4, 0, 0, -1), -2);
        refused(x, c, "q a player", x.copy(4, 2, 0, 0, -1), -2);
        refused(x, c, "two sorts", x.copy(0, 3, 0, 0, -1), -2);
        refused(x, c, "p nothing", x.copy(4, 0, 0, 0, -1), -3);
        refused(x, c, "q nothing", x.copy(0, 4, 0, 0, -1), -3);
        refused(x, c, "n -1", x.copy(0, 1, -1, 0, -1), -4);
        refused(x, c, "i -1", x.copy(0, 1, -1, 0, 1), -5);
        refused(x, c, "j -1", x.copy(0, 1, 0, -1, 1), -5);
        refused(x, c, "i beyond", x.copy(0, 1, 3, 0, 3), -5);
        refused(x, c, "j beyond", x.copy(0, 1, 0, 1, 3), -5);
        refused(x, c, "i far", x.copy(0, 1, 6, 0, 0), -5);
        refused(x, c, "wrapping", x.copy(0, 1, 1, 0, Integer.MAX_VALUE), -5);
        refused(x, c, "wrapping", x.copy(0, 1, Integer.MAX_VALUE, 1, 2), -5);
    }

    private static void promise5() {
        ToLiftToStrike x = new ToLiftToStrike();
        put(x, 0, 3, Long.MIN_VALUE, 7);
        int[] c = counts(x);
        due("0", x.element(0, 0), Long.MIN_VALUE);
        due("1", x.element(0, 1), 7);
        due("2", x.element(0, 2), 0);
        due("-1", x.element(0, -1), 0);
        due("nothing", x.element(1, 0), 0);
        due("no shelf", x.element(8, 0) + x.element(-1, 0), 0);
        x.player(0, 5);
        x.show(0, 0);
        due("a player", x.element(0, 1), 0);
        for (int n = 1; n <= 7; n++) due("nothing is refused", x.status(10 + n), c[n]);
    }

    private static void promise6() {
        ToLiftToStrike x = new ToLiftToStrike();
        x.player(0, 0);
        x.player(0, 0);
        int[] c = counts(x);
        due("show", x.show(7, 1), 1);
        due("holds", x.holds(7), 1);
        due("none", x.show(7, -1), 0);
        due("holds", x.holds(7), -1);
        x.row(0, 0, 1);
        due("over a row", x.show(0, 0), 1);
        due("holds", x.holds(0), 0);
        refused(x, c, "shelf 8", x.show(8, 0), -1);
        refused(x, c, "shelf -1", x.show(-1, -1), -1);
        refused(x, c, "player 2", x.show(0, 2), -1);
        refused(x, c, "player -2", x.show(0, -2), -1);
        due("as it was", x.holds(0), 0);
    }

    private static void promise7() {
        ToLiftToStrike x = told(TWELVE);
        int[] c = counts(x);
        x.show(0, 11);
        x.row(1, 3, 0);
        due("a player", x.holds(0), 11);
        due("a row", x.holds(1), 103);
        due("bytes", x.holds(7), 100);
        due("nothing", x.holds(2), -1);
        due("no shelf", x.holds(8), -1);
        due("no shelf", x.holds(-1), -1);
        refused(x, c, "and none of it is refused but this", x.row(8, 0, 0), -1);
    }

    private static void promise8() {
        ToLiftToStrike x = told(SEVEN);
        for (int s = 0; s < 7; s++) x.show(s, s);
        int[] c = counts(x);
        for (int s = 0; s < 7; s++) due("place " + s, x.says(s, 0), s == 6 ? -1 : s);
        due("striker", x.says(0, 1), 53);
        due("tall as striker", x.says(1, 1), 65);
        due("quick as striker", x.says(2, 1), 62);
        due("tall", x.says(1, 3), 65);
        due("quick", x.says(2, 5), 62);
        due("lifter", x.says(3, 2), 7);
        due("small", x.says(4, 4), 74);
        due("libero as small", x.says(5, 4), 96);
        due("libero", x.says(5, 6), 96);
        int[][] others = {{0, 3}, {0, 5}, {0, 2}, {1, 5}, {2, 3}, {3, 1}, {3, 4}, {4, 6}, {4, 1}, {5, 1}, {5, 2}, {6, 1}, {6, 4}};
        for (int[] o : others) refused(x, c, "other " + o[0] + " " + o[1], x.says(o[0], o[1]), -2);
        refused(x, c, "a row", x.says(7, 0), -2);
        refused(x, c, "a row, no kind", x.says(7, 7), -1);
        refused(x, c, "no kind", x.says(0, -1), -1);
        refused(x, c, "no shelf", x.says(8, 0), -1);
        x.show(0, -1);
        refused(x, c, "nothing", x.says(0, 1), -3);
    }

    private static void promise9() {
        ToLiftToStrike x = new ToLiftToStrike();
        int[] c = counts(x);
        for (int i = 0; i < 10; i++) due("player", x.player(i % 7, i), i);
        refused(x, c, "kind 7", x.player(7, 10), -1);
        refused(x, c, "kind -1", x.player(-1, 0), -1);
        refused(x, c, "a 10", x.player(0, 10), -6);
        refused(x, c, "a -1", x.player(0, -1), -6);
        due("10", x.player(6, 9), 10);
        due("11", x.player(0, 0), 11);
        refused(x, c, "room", x.player(0, 0), -7);
        refused(x, c, "a ahead of room", x.player(0, 10), -6);
        refused(x, c, "kind ahead of room", x.player(7, 0), -1);
        statuses(x, 0, 12, 0);
        for (int i = 0; i < 10; i++) {
            due("kind", x.playerOf(i, 0), i % 7);
            due("a", x.playerOf(i, 1), i);
        }
    }

    private static void promise10() {
        ToLiftToStrike x = told(SEVEN);
        int[][] want = {{1, 4, 0, 34, 53, 53}, {3, 5, 1, 30, 65, 65}, {5, 6, 2, 36, 47, 62}, {2, 7, 3, 54, 27, 27},
            {4, 8, 4, 74, 33, 33}, {6, 9, 5, 96, 0, 0}, {0, 3, -1, 46, 33, 33}};
        for (int p = 0; p < 7; p++) {
            for (int what = 0; what < 6; what++) due("playerOf(" + p + ", " + what + ")", x.playerOf(p, what), want[p][what]);
        }
        int[] c = counts(x);
        refused(x, c, "player 7", x.playerOf(7, 0), -15);
        refused(x, c, "player -1", x.playerOf(-1, 0), -15);
        refused(x, c, "what 6", x.playerOf(0, 6), -15);
        refused(x, c, "what -1", x.playerOf(0, -1), -15);
    }

    private static void promise11() {
        ToLiftToStrike x = told(SEVEN);
        int[] c = counts(x);
        floor(x, 0, 1, 2, 3, 4, 5);
        x.put(3, -1);
        due("nobody", x.at(3), -1);
        refused(x, c, "6", x.at(6), -11);
        refused(x, c, "-1", x.at(-1), -11);
    }

    private static void promise12() {
        ToLiftToStrike x = told(SEVEN);
        int[] c = counts(x);
        due("another", x.put(0, 6), 0);
        floor(x, 6, 1, 2, 3, 4, 5);
        due("from elsewhere", x.put(1, 5), 1);
        floor(x, 6, 5, 2, 3, 4, -1);
        due("nobody was there", x.put(5, 0), -1);
        due("nobody", x.put(2, -1), 2);
        due("nobody again", x.put(2, -1), -1);
        floor(x, 6, 5, -1, 3, 4, 0);
        due("where he is", x.put(3, 3), 3);
        floor(x, 6, 5, -1, 3, 4, 0);
        refused(x, c, "place 6", x.put(6, 0), -11);
        refused(x, c, "place -1", x.put(-1, 0), -11);
        refused(x, c, "player 7", x.put(0, 7), -11);
        refused(x, c, "player -2", x.put(0, -2), -11);
        statuses(x, 1, 5);
    }

    private static void promise13() {
        ToLiftToStrike x = told(SEVEN);
        int[] c = counts(x);
        due("0", x.turn(0), 0);
        due("1", x.turn(1), 5);
        floor(x, 5, 0, 1, 2, 3, 4);
        due("5", x.turn(5), 0);
        floor(x, 0, 1, 2, 3, 4, 5);
        x.put(5, -1);
        due("nobody", x.turn(1), -1);
        floor(x, -1, 0, 1, 2, 3, 4);
        refused(x, c, "6", x.turn(6), -16);
        refused(x, c, "-1", x.turn(-1), -16);
        statuses(x, 2, 0, 0, 1, 0, 0, 0);
    }

    private static void promise14() {
        ToLiftToStrike x = new ToLiftToStrike();
        int[] c = counts(x);
        int[] first = {30, 5, 3, 400, 15};
        int[] least = {0, 0, 0, 0, 1};
        int[] most = {60, 5, 9, 1000, 25};
        for (int what = 0; what < 5; what++) {
            due("least of " + what, x.ask(what, least[what]), first[what]);
            due("most of " + what, x.ask(what, most[what]), least[what]);
            refused(x, c, "below " + what, x.ask(what, least[what] - 1), -6);
            refused(x, c, "above " + what, x.ask(what, most[what] + 1), -6);
            due("status", x.status(what == 0 ? 8 : 17 + what), most[what]);
        }
        refused(x, c, "what 5", x.ask(5, 1), -6);
        refused(x, c, "what -1", x.ask(-1, 1), -6);
        x.score(7, 8, 0);
        x.ask(3, 1);
        statuses(x, 2, 7, 8, 0);
        refused(x, c, "goal 26", x.ask(4, 26), -6);
        statuses(x, 2, 7, 8, 0);
        due("the same goal", x.ask(4, 25), 25);
        statuses(x, 2, 0, 0, 0);
    }

    private static void promise15() {
        ToLiftToStrike x = new ToLiftToStrike();
        int[] c = counts(x);
        due("14 13", x.score(14, 13, 0), 1);
        statuses(x, 2, 14, 13, 0);
        due("0 14", x.score(0, 14, 1), 1);
        statuses(x, 2, 0, 14, 1, 0, 0, 0);
        refused(x, c, "us 15", x.score(15, 0, 0), -6);
        refused(x, c, "them 15", x.score(0, 15, 0), -6);
        refused(x, c, "us -1", x.score(-1, 0, 0), -6);
        refused(x, c, "them -1", x.score(0, -1, 0), -6);
        refused(x, c, "serves 2", x.score(0, 0, 2), -6);
        refused(x, c, "serves -1", x.score(0, 0, -1), -6);
        statuses(x, 2, 0, 14, 1);
        x.ask(4, 16);
        due("goal 16", x.score(15, 15, 0), 1);
    }

    private static void promise16() {
        ToLiftToStrike x = new ToLiftToStrike();
        int[] c = counts(x);
        due("one", text(x, 0, "player 6 9"), 1);
        due("all", text(x, 0, "player 1 04;on 0002 1;turn;block 20;serve 4 5;break 0450;goal 5;rally 0;rally 1"), 9);
        floor(x, -1, -1, -1, -1, 1, -1);
        statuses(x, 0, 2, 1, 1, 1, 0, 0, 0, 2, 20);
        statuses(x, 18, 4, 5, 450, 5);
        due("over what there is", text(x, 0, "on 0 1;on 1 0;on 0 0"), 3);
        floor(x, 0, -1, -1, -1, -1, -1);
        due("goal", text(x, 0, "goal 1;rally 1;rally 1;rally 0"), 4);
        statuses(x, 2, 0, 0, 0, 2, 1, 5);
        refused(x, c, "all or nothing", text(x, 0, "block 1;player 0 0;turn;rally 1;goal 3;goal 0"), -6);
        floor(x, -1, 0, -1, -1, -1, -1);
        statuses(x, 0, 2, 1, 0, 0, 0, 2, 1, 5, 20);
        put(x, 1, 3, 't' + (5L << 32), 'u', 'r', 'n' - (1L << 40));
        due("longs by their lowest 32 bits", x.team(1), 1);
        put(x, 1, 1, 't' + 256, 'u', 'r', 'n');
        refused(x, c, "shorts by all of theirs", x.team(1), -6);
        x.show(2, 0);
        refused(x, c, "shelf 8", x.team(8), -1);
        refused(x, c, "a player", x.team(2), -2);
        refused(x, c, "nothing", x.team(3), -3);
    }

    private static void fault(ToLiftToStrike x, String text, int want) {
        due("team " + text, text(x, 0, text), -6);
        due("fault of " + text, x.fault(), want);
    }

    private static void promise17() {
        ToLiftToStrike x = new ToLiftToStrike();
        String[] texts = {"", "p", "playr", "player", "player ", "player 7 0", "player 0", "player 0 10", "player 0 0;",
            "player 0 0 ", "player  0 0", "player x", "turn 0", "turnx", "block 61", "block 00060", "block 99999", "blick", "bxock",
            "goal 0", "goal 26", "serve 6 0", "serve 5 10", "serve 5", "rally 2", "break 1001", "on 0 0", "on 6 0", "o", "turn; turn",
            ";turn", "turn;;", "Turn", "turn;goal 0x", "breal 4", "block", "rally 01;rally 0x"};
        int[] faults = {0, 1, 4, 6, 7, 7, 8, 9, 11, 10, 7, 7, 4, 4, 6, 10, 6, 2, 1,
            5, 5, 6, 8, 7, 6, 6, 5, 3, 1, 5, 0, 5, 0, 10, 4, 5, 16};
        for (int i = 0; i < texts.length; i++) fault(i % 12 == 11 ? x = new ToLiftToStrike() : x, texts[i], faults[i]);
        due("none now", text(x, 0, "turn"), 1);
        due("none now", x.fault(), -1);
        fault(x, "turn;tern", 6);
        x.team(8);
        x.team(4);
        due("of the latest that came to a row", x.fault(), 6);
        ToLiftToStrike full = told(TWELVE);
        fault(full, "player 0 0", 0);
        fault(full, "playe", 5);
        fault(full, "playex", 5);
        fault(full, "turn;player", 5);
        fault(full, "on 0 12", 5);
        due("the last", text(full, 0, "on 0 11"), 1);
        ToLiftToStrike x2 = new ToLiftToStrike();
        for (int i = 0; i < 11; i++) x2.player(0, 0);
        fault(x2, "player 0 0;player 0 0", 11);
        statuses(x2, 0, 11);
        fault(x2, "on 0 11;player 0 0", 5);
        due("who was told ahead", text(x2, 0, "player 0 0;on 0 11"), 2);
    }

    private static void promise18() {
        ToLiftToStrike x = told(SEVEN);
        int[] c = counts(x);
        int[] skills = {34, 30, 36, 54, 74, 96};
        for (int place = 0; place < 6; place++) {
            for (int force = 0; force < 10; force++) {
                due("good " + place + " " + force, x.good(place, force), Math.max(0, skills[place] - 5 * force));
            }
        }
        x.put(5, 6);
        due("a player", x.good(5, 1), 41);
        due("nobody", x.put(5, -1) - 6 + x.good(5, 0), 0);
        refused(x, c, "place 6", x.good(6, 10), -1);
        refused(x, c, "place -1", x.good(-1, 0), -1);
        refused(x, c, "force 10", x.good(0, 10), -6);
        refused(x, c, "force -1", x.good(0, -1), -6);
    }

    private static void promise19() {
        ToLiftToStrike x = told(SEVEN);
        int[] c = counts(x);
        due("good", x.open(1), 7);
        due("bad", x.open(0), 1);
        x.put(1, -1);
        due("good", x.open(1), 5);
        x.put(0, -1);
        due("good", x.open(1), 4);
        due("bad", x.open(0), 0);
        x.put(2, 5);
        due("a libero too", x.open(1), 4);
        refused(x, c, "2", x.open(2), -6);
        refused(x, c, "-1", x.open(-1), -6);
    }

    private static void promise20() {
        ToLiftToStrike x = told(SEVEN);
        int[] c = counts(x);
        due("good", x.value(1), 500);
        due("bad", x.value(0), 230);
        x.ask(0, 0);
        due("good, no block", x.value(1), 650);
        due("bad, no block", x.value(0), 530);
        x.ask(0, 1);
        due("only the greatest", x.value(1), 640);
        x.ask(0, 4);
        due("rounded up", x.value(1), 615);
        x.ask(0, 7);
        due("rounded up", x.value(1), 600);
        x.ask(0, 60);
        due("good", x.value(1), 400);
        due("bad: none is left", x.value(0), 0);
        x.ask(0, 30);
        x.put(1, 5);
        due("a quick one and a libero", x.value(1), 425);
        x.put(0, 2);
        due("quick, bad", x.value(0), 170);
        x.put(0, -1);
        due("nobody", x.value(0), 0);
        due("none above", x.value(1), 0);
        refused(x, c, "2", x.value(2), -6);
        refused(x, c, "-1", x.value(-1), -6);
    }

    private static void promise21() {
        ToLiftToStrike x = told(SEVEN);
        int[] c = counts(x);
        due("good", x.often(1), 7);
        due("bad", x.often(0), 1);
        x.ask(0, 5);
        due("not the striker", x.often(1), 6);
        x.ask(0, 3);
        due("just the tall one", x.often(1), 2);
        x.ask(0, 0);
        due("none above v: the greatest", x.often(1), 2);
        due("bad", x.often(0), 1);
        text(x, 6, "player 3 5;on 2 7");
        due("of several the first", x.often(1), 2);
        x.put(1, -1);
        due("the other", x.often(1), 4);
        x.put(0, 5);
        x.put(2, -1);
        due("a libero alone", x.often(1) + 8 * x.often(0), 9);
        x.put(0, -1);
        due("nobody", x.often(1) + x.often(0), 0);
        refused(x, c, "2", x.often(2), -6);
        refused(x, c, "-1", x.often(-1), -6);
    }

    private static void promise22() {
        ToLiftToStrike x = told(SEVEN);
        int[] c = counts(x);
        int[] good = {100, 500, 400, 0, 0, 0};
        int[] bad = {1000, 0, 0, 0, 0, 0};
        for (int place = 0; place < 6; place++) {
            due("good " + place, x.blocked(1, place), good[place]);
            due("bad " + place, x.blocked(0, place), bad[place]);
        }
        x.ask(0, 60);
        due("cut", x.blocked(1, 0), 216);
        x.ask(0, 5);
        due("not set", x.blocked(1, 0), 0);
        x.ask(0, 1);
        due("the least block", x.blocked(1, 1), 1000);
        x.ask(0, 0);
        due("no block", x.blocked(1, 1), 0);
        x.ask(0, 30);
        x.put(1, -1);
        due("nobody", x.blocked(1, 1), 0);
        refused(x, c, "place 6", x.blocked(2, 6), -1);
        refused(x, c, "place -1", x.blocked(0, -1), -1);
        refused(x, c, "2", x.blocked(2, 0), -6);
        refused(x, c, "-1", x.blocked(-1, 0), -6);
    }

    private static void promise23() {
        ToLiftToStrike x = told(SEVEN);
        int[] c = counts(x);
        due("5 3", x.side(5, 3), 498);
        due("1 0", x.side(1, 0), 311);
        due("1 1", x.side(1, 1), 318);
        due("5 9", x.side(5, 9), 538);
        due("0 9", x.side(0, 9), 437);
        refused(x, c, "place 6", x.side(6, 10), -1);
        refused(x, c, "place -1", x.side(-1, 0), -1);
        refused(x, c, "force 10", x.side(0, 10), -6);
        refused(x, c, "force -1", x.side(0, -1), -6);
        due("nobody there", new ToLiftToStrike().side(2, 4), 120);
        ToLiftToStrike y = told("player 0 7;player 2 0;player 2 2;on 0 0;on 1 1;on 2 2;block 27");
        due("124.99 and 30, cut", y.side(2, 1), 154);
    }

    private static void promise24() {
        ToLiftToStrike x = told(SEVEN);
        due("worth", x.worth(), 270);
        x.ask(0, 0);
        due("no block", x.worth(), 120);
        due("nobody", new ToLiftToStrike().worth(), 0);
    }

    private static void promise25() {
        ToLiftToStrike x = told(SEVEN);
        due("the tall one", x.hard(), 10);
        x.turn(1);
        due("turned", x.hard(), 20);
        x.turn(5);
        x.put(3, -1);
        due("nobody there", x.hard(), 30);
        x.put(4, -1);
        due("of several the first", x.hard(), 30);
        due("nobody", new ToLiftToStrike().hard(), 0);
        ToLiftToStrike y = told("player 6 9;player 3 9;player 4 0;block 0;on 1 1;on 0 2;on 2 2;on 3 0;on 4 0;on 5 0");
        due("5 is at 5 alone", y.at(3) + y.at(4), -2);
        ToLiftToStrike z = told("player 6 9;player 3 9;player 6 9;player 6 9;player 6 9;player 6 9;block 0;on 0 0;on 1 1;on 2 2;on 3 3;on 4 4;on 5 5");
        due("the tall one, with some force", z.hard(), 16);
        z = told("player 5 0;player 3 9;player 3 9;player 6 9;player 6 9;player 6 9;block 35",
            "on 0 0;on 1 1;on 2 2;on 3 3;on 4 4;on 5 5");
        due("164 with force 1 and 2", z.side(0, 1) * 1000 + z.side(0, 2), 164164);
        due("the first place, of two forces the less", z.hard(), 1);
    }

    private static void promise26() {
        ToLiftToStrike x = told("player 6 9;player 3 9;block 0;on 1 1;on 5 0");
        int[] c = counts(x);
        due("no force", x.bold(5), 0);
        due("nobody: all force", x.bold(0), 9);
        ToLiftToStrike z = told("player 6 0;player 3 0;on 0 0;on 1 1;block 0");
        due("330 with 0 and 9", z.side(0, 0) * 1000 + z.side(0, 9), 330330);
        due("of several the least", z.bold(0), 0);
        ToLiftToStrike y = told(SEVEN);
        for (int place = 0; place < 6; place++) due("all force", y.bold(place), 9);
        refused(x, c, "6", x.bold(6), -1);
        refused(x, c, "-1", x.bold(-1), -1);
    }

    private static void promise27() {
        ToLiftToStrike x = told(SEVEN);
        int[] c = counts(x);
        due("strong", x.strong(0), 0);
        due("weak", x.strong(1), 3);
        x.turn(2);
        due("strong", x.strong(0), 4);
        due("weak", x.strong(1), 1);
        floor(x, 4, 5, 0, 1, 2, 3);
        refused(x, c, "2", x.strong(2), -5);
        refused(x, c, "-1", x.strong(-1), -5);
        ToLiftToStrike y = new ToLiftToStrike();
        due("of several the first", y.strong(0) + y.strong(1), 0);
        String all = ";on 0 0;on 1 1;on 2 2;on 3 3;on 4 4;on 5 5";
        y = told("player 3 1;player 1 4;player 5 7;player 4 6;player 1 8;player 1 5" + all, "block 26");
        due("495, not 494", y.strong(0), 4);
        y = told("player 2 3;player 5 9;player 0 4;player 2 8;player 4 1;player 0 9" + all, "block 18");
        due("234, not 235", y.strong(1), 4);
        y = told("player 1 5;player 1 5;player 1 5" + all.substring(0, 21));
        due("the last turn", y.turn(1) + y.strong(0), 4);
    }

    private static void promise28() {
        ToLiftToStrike x = told(SEVEN, "goal 2");
        int[] c = counts(x);
        due("1 1 we", x.chance(1, 1, 0, 0), 400000);
        due("1 1 they", x.chance(1, 1, 1, 0), 498000);
        due("1 1 they, 1", x.chance(1, 1, 1, 1), 326000);
        due("1 1 they, 2", x.chance(1, 1, 1, 2), 206000);
        due("0 1", x.chance(0, 1, 1, 0), 199200);
        due("1 0", x.chance(1, 0, 1, 0), 747996);
        due("1 0 we, 1", x.chance(1, 0, 0, 1), 595600);
        due("0 0", x.chance(0, 0, 1, 0), 396607);
        due("won", x.chance(2, 1, 0, 5), 1000000);
        due("lost", x.chance(0, 2, 1, 0), 0);
        refused(x, c, "both", x.chance(2, 2, 0, 0), -6);
        refused(x, c, "us 3", x.chance(3, 0, 0, 0), -6);
        refused(x, c, "them 3", x.chance(0, 3, 0, 0), -6);
        refused(x, c, "us -1", x.chance(-1, 0, 0, 0), -6);
        refused(x, c, "them -1", x.chance(0, -1, 0, 0), -6);
        refused(x, c, "serves 2", x.chance(0, 0, 2, 0), -6);
        refused(x, c, "serves -1", x.chance(0, 0, -1, 0), -6);
        refused(x, c, "turns 6", x.chance(0, 0, 0, 6), -6);
        refused(x, c, "turns -1", x.chance(0, 0, 0, -1), -6);
        floor(x, 0, 1, 2, 3, 4, 5);
        statuses(x, 2, 0, 0, 1, 0, 0, 0);
        x.ask(4, 25);
        due("24 24", x.chance(24, 24, 1, 1), 326000);
    }

    private static void promise29() {
        ToLiftToStrike x = told(SEVEN, "goal 1");
        int[] c = counts(x);
        due("they", x.begin(1), 0);
        due("we: all alike", x.begin(0), 0);
        x.turn(1);
        due("they", x.begin(1), 5);
        x.turn(3);
        due("they", x.begin(1), 2);
        refused(x, c, "2", x.begin(2), -6);
        refused(x, c, "-1", x.begin(-1), -6);
        floor(x, 2, 3, 4, 5, 0, 1);
        x.ask(4, 2);
        x.score(1, 1, 0);
        x.ask(3, 1000);
        due("from 0 to 0, not from now", x.begin(1), 2);
    }

    private static void promise30() {
        ToLiftToStrike x = told(SEVEN, "goal 1");
        due("none better", x.change(), -1);
        x.put(5, -1);
        x.ask(1, 3);
        due("the libero receives", x.change(), 305);
        floor(x, 0, 1, 2, 3, 4, -1);
        x.score(0, 0, 0);
        due("we serve: none", x.change(), -1);
        ToLiftToStrike y = told("player 0 0;player 3 9;player 3 9;on 0 0;goal 1;block 0");
        due("of several the first", y.change(), 1);
        ToLiftToStrike z = told("player 1 0;player 1 0;player 3 9;on 0 0;on 1 1;goal 2;serve 3 0;block 0");
        z.score(1, 1, 1);
        due("from now", z.change(), 2);
        z.score(0, 1, 1);
        statuses(z, 2, 0, 1, 1);
        due("nobody", new ToLiftToStrike().change(), -1);
    }

    private static void promise31() {
        ToLiftToStrike x = told("player 0 0");
        put(x, 0, 3, 1, 0, 1L << 32, (5L << 32) + 1, 2, -1);
        x.show(1, 0);
        int[] c = counts(x);
        due("right", x.judge(0, 4), -1);
        due("none", x.judge(0, 0), -1);
        due("wrong", x.judge(0, 5), 4);
        due("the first", x.judge(0, 6), 4);
        put(x, 2, 0, -1, 0);
        due("-1", x.judge(2, 2), 0);
        refused(x, c, "shelf 8", x.judge(8, -1), -11);
        refused(x, c, "shelf -1", x.judge(-1, 0), -11);
        refused(x, c, "a player", x.judge(1, -1), -12);
        refused(x, c, "nothing", x.judge(3, -1), -13);
        refused(x, c, "n -1", x.judge(0, -1), -14);
        refused(x, c, "fewer", x.judge(0, 7), -15);
        refused(x, c, "161", x.judge(0, 161), -15);
        x.row(0, 0, 160);
        due("160", x.judge(0, 160), -1);
    }

    private static void behind(ToLiftToStrike x, int n, int... want) {
        for (int what = 0; what < 6; what++) due("behind " + n + " " + what, x.behind(0, n, what), want[what]);
    }

    private static void promise32() {
        ToLiftToStrike x = told(SEVEN, "goal 3;rally 0;rally 0");
        put(x, 0, 1, 0, 0, 0, 1, 1, 1, 0, 1, 0, 1, 1, 1, 2);
        int[] c = counts(x);
        behind(x, 0, 0, 2, 1, 0, 0, 0);
        behind(x, 1, 0, 0, 0, 0, 0, 1);
        behind(x, 2, 0, 1, 1, 0, 0, 1);
        behind(x, 4, 1, 2, 0, 1, 0, 1);
        behind(x, 6, 0, 0, 1, 1, 1, 1);
        behind(x, 12, 1, 0, 0, 4, 2, 1);
        floor(x, 0, 1, 2, 3, 4, 5);
        statuses(x, 2, 0, 2, 1, 0, 0, 2);
        x.rally(0);
        x.rally(1);
        behind(x, 0, 1, 0, 0, 0, 0, 0);
        behind(x, 5, 2, 0, 0, 0, 0, 1);
        refused(x, c, "wrong", x.behind(0, 13, 0), -6);
        refused(x, c, "what 6", x.behind(0, 13, 6), -5);
        refused(x, c, "what -1", x.behind(0, 1, -1), -5);
        refused(x, c, "fewer", x.behind(0, 14, 0), -5);
        refused(x, c, "n -1", x.behind(0, -1, 6), -4);
        refused(x, c, "nothing", x.behind(1, -1, 6), -3);
        x.show(1, 0);
        refused(x, c, "a player", x.behind(1, -1, 6), -2);
        refused(x, c, "shelf 8", x.behind(8, -1, 6), -1);
        ToLiftToStrike y = new ToLiftToStrike();
        y.row(0, 0, 40);
        for (int i = 1; i < 40; i += 2) y.set(0, i, 1);
        due("turns aren't taken by six", y.behind(0, 20, 3), 10);
    }

    private static void promise33() {
        ToLiftToStrike x = told("player 0 0");
        put(x, 0, 2, 1, 1, 0, 1, 1, 1, 0, 0, 0, 0, 3);
        x.show(1, 0);
        int[] c = counts(x);
        due("ones", x.run(0, 10, 1), 3);
        due("noughts", x.run(0, 10, 0), 4);
        due("ones of 2", x.run(0, 2, 1), 2);
        due("noughts of 2", x.run(0, 2, 0), 0);
        due("of none", x.run(0, 0, 1), 0);
        put(x, 3, 1, 0, 0, 1, 1, 1);
        due("the last", x.run(3, 5, 1) + 10 * x.run(3, 5, 0), 23);
        due("to the end", x.run(0, 8, 0), 2);
        refused(x, c, "wrong", x.run(0, 11, 0), -6);
        refused(x, c, "sort 2", x.run(0, 1, 2), -6);
        refused(x, c, "sort -1", x.run(0, 1, -1), -6);
        refused(x, c, "fewer", x.run(0, 12, 2), -5);
        refused(x, c, "n -1", x.run(0, -1, 2), -4);
        refused(x, c, "nothing", x.run(2, -1, 2), -3);
        refused(x, c, "a player", x.run(1, -1, 2), -2);
        refused(x, c, "shelf -1", x.run(-1, -1, 2), -1);
    }

    private static void promise34() {
        ToLiftToStrike x = told(SEVEN);
        put(x, 0, 3, 2, 1, 1, (1L << 32) + 2, 6, 6, 7);
        x.show(1, 0);
        int[] c = counts(x);
        due("most often, the least", x.whom(0, 4, 0), 1);
        due("most often", x.whom(0, 1, 0), 2);
        due("three alike", x.whom(0, 6, 0), 1);
        due("none", x.whom(0, 0, 0), -1);
        due("another", x.whom(0, 6, 1), 3);
        due("another", x.whom(0, 1, 1) + x.whom(0, 0, 1), 0);
        due("another, of two, three and four", x.whom(0, 2, 1) * 100 + x.whom(0, 3, 1) * 10 + x.whom(0, 4, 1), 112);
        put(x, 4, 0, 0, 0, 6, 6, 6);
        due("the first too", x.whom(4, 5, 1) * 10 + x.whom(4, 2, 0), 10);
        due("the first not by often", x.put(0, -1) + x.whom(4, 1, 2), 0);
        x.put(0, 0);
        due("by often", x.whom(0, 4, 2), 1);
        due("by often: none", x.whom(0, 0, 2), 1);
        due("not on", x.whom(0, 5, 2), 0);
        x.ask(0, 3);
        due("the tall one alone", x.whom(0, 4, 2), 0);
        x.ask(0, 30);
        x.turn(1);
        due("behind", x.whom(0, 4, 2), 0);
        refused(x, c, "no player", x.whom(0, 7, 0), -16);
        refused(x, c, "what 3", x.whom(0, 7, 3), -15);
        refused(x, c, "what -1", x.whom(0, 0, -1), -15);
        refused(x, c, "fewer", x.whom(0, 8, 0), -15);
        refused(x, c, "n -1", x.whom(0, -1, 3), -14);
        refused(x, c, "nothing", x.whom(2, -1, 3), -13);
        refused(x, c, "a player", x.whom(1, -1, 3), -12);
        refused(x, c, "shelf 8", x.whom(8, -1, 3), -11);
        put(x, 0, 0, -1);
        refused(x, c, "-1 is no player", x.whom(0, 1, 0), -16);
    }

    private static void promise35() {
        ToLiftToStrike x = told(SEVEN, "goal 2");
        int[] c = counts(x);
        due("theirs", x.rally(0), 0);
        statuses(x, 2, 0, 1, 1, 0, 0, 1);
        due("ours: a turn", x.rally(1), 1);
        statuses(x, 2, 1, 1, 0, 0, 0, 2);
        floor(x, 5, 0, 1, 2, 3, 4);
        due("the set", x.rally(1), 0);
        statuses(x, 2, 0, 0, 1, 1, 0, 3);
        floor(x, 5, 0, 1, 2, 3, 4);
        x.rally(0);
        due("their set", x.rally(0), 0);
        statuses(x, 2, 0, 0, 0, 1, 1, 5);
        refused(x, c, "2", x.rally(2), -6);
        refused(x, c, "-1", x.rally(-1), -6);
        statuses(x, 7, 5);
    }

    private static void promise36() {
        ToLiftToStrike x = told("break 1000");
        int[] c = counts(x);
        x.score(0, 0, 0);
        due("1", x.rallies(1), 1);
        due("seed", x.status(9), 1103515245 + 12345);
        due("draw 838: below 838 no, below 839 yes", (1103527590 >>> 16) % 1000, 838);
        for (int p = 838; p <= 839; p++) {
            ToLiftToStrike y = new ToLiftToStrike();
            y.ask(3, p);
            y.score(0, 0, 0);
            due("break " + p, y.rallies(1), p - 838);
        }
        due("200", x.rallies(200) >= 0 ? x.status(7) : -1, 201);
        x.seed(-1);
        x.score(0, 0, 0);
        due("upper bits, no sign", x.rallies(1), 1);
        due("seed", x.status(9), 12345 - 1103515245);
        ToLiftToStrike z = told(SEVEN);
        z.seed(1);
        due("side 498 against 838", z.rallies(1), 0);
        z.seed(0);
        due("draw 0", z.rallies(1), 1);
        floor(z, 5, 0, 1, 2, 3, 4);
        statuses(z, 2, 1, 1, 0, 0, 0, 2);
        refused(x, c, "0", x.rallies(0), -6);
        refused(x, c, "201", x.rallies(201), -6);
        refused(x, c, "-1", x.rallies(-1), -6);
    }

    private static void promise37() {
        ToLiftToStrike x = told(SEVEN, "goal 1;rally 1;rally 1;rally 0");
        x.ask(4, 9);
        x.score(3, 4, 0);
        due("anew", x.anew(), 3);
        statuses(x, 2, 0, 0, 1, 0, 0, 3, 30);
        floor(x, 4, 5, 0, 1, 2, 3);
        due("again", x.anew(), 0);
        due("goal", x.status(21), 9);
    }

    private static void promise38() {
        ToLiftToStrike x = new ToLiftToStrike();
        due("1", x.seed(Integer.MIN_VALUE), 1);
        due("min", x.seed(0), Integer.MIN_VALUE);
        due("0", x.seed(7), 0);
        due("status", x.status(9), 7);
        statuses(x, 11, 0, 0, 0, 0, 0, 0, 0);
    }

    private static void acts(ToLiftToStrike x, int player, int act, int v, int want, int... bodies) {
        due("act " + player + " " + act, x.act(player, act, v), want);
        due("bodies", x.status(10), bodies.length);
        for (int i = 0; i < bodies.length; i++) due("trace " + i, x.trace(i), bodies[i]);
        due("trace end", x.trace(bodies.length), -1);
        due("trace -1", x.trace(-1), -1);
    }

    private static void promise39() {
        ToLiftToStrike x = told("player 0 3;player 1 4;player 2 5;player 3 6;player 4 7;player 5 8;player 6 9");
        acts(x, 0, 0, 10, 10, 10);
        acts(x, 0, 1, 10, 20, 11, 10);
        acts(x, 0, 2, 10, 20 ^ 7, 12, 11, 10, 10);
        acts(x, 1, 0, 10, 15, 20, 10);
        acts(x, 1, 1, 10, 30, 11, 20, 10);
        acts(x, 1, 2, 10, 30 ^ 11, 12, 11, 20, 10, 20, 10);
        acts(x, 2, 0, 10, 12, 10);
        acts(x, 2, 1, 10, 72, 30, 11, 10);
        acts(x, 2, 2, 10, 72 ^ 7, 12, 30, 11, 10, 10);
        acts(x, 3, 0, 10, 19, 20, 10);
        acts(x, 3, 1, 10, 40, 40, 11, 20, 10);
        acts(x, 3, 2, 10, 40 ^ 13, 12, 40, 11, 20, 10, 20, 10);
        acts(x, 4, 0, 10, 10, 51, 10);
        acts(x, 4, 1, 10, 20, 11, 51, 10);
        acts(x, 4, 2, 10, -(20 ^ 3), 50, 12, 11, 51, 10, 51, 10);
        acts(x, 5, 0, 10, 23, 20, 10);
        acts(x, 5, 1, 10, 46, 11, 20, 10);
        acts(x, 5, 2, 10, 46 ^ 15 ^ 5, 60, 12, 11, 20, 10, 20, 10);
        acts(x, 6, 0, 10, 20, 70, 51, 10);
        acts(x, 6, 1, 10, 4, 71, 11, 70, 51, 10);
        acts(x, 6, 2, 10, -(4 ^ 2), 50, 12, 71, 11, 70, 51, 10, 70, 51, 10);
        acts(x, 2, 0, Integer.MAX_VALUE, Integer.MIN_VALUE + 1, 10);
        acts(x, 7, 0, 10, 0);
        acts(x, 0, 0, 0, 0, 10);
        acts(x, -1, 0, 10, 0);
        acts(x, 1, 0, 0, 5, 20, 10);
        acts(x, 0, 3, 10, 0);
        acts(x, 1, 0, 0, 5, 20, 10);
        acts(x, 0, -1, 10, 0);
        statuses(x, 11, 0, 0, 0, 0, 0, 0, 0);
    }

    private static void promise40() {
        ToLiftToStrike x = told("player 6 9;player 0 0");
        due("none yet", x.trace(0), -1);
        x.act(0, 2, 5);
        due("0", x.trace(0), 50);
        due("9", x.trace(9), 10);
        due("10", x.trace(10), -1);
        due("far", x.trace(Integer.MAX_VALUE) + x.trace(Integer.MIN_VALUE), -2);
        x.act(1, 0, 5);
        due("the latest", x.trace(0), 10);
        due("the latest", x.trace(1), -1);
        x.image();
        x.act(0, 0, 0);
        x.restore();
        due("the image has none", x.trace(0), 70);
        due("the image has none", x.status(10), 3);
    }

    private static void promise41() {
        ToLiftToStrike x = told(SEVEN, "goal 4;rally 0;rally 1;block 7;serve 1 2;break 333");
        x.seed(99);
        due("image", x.image(), 7);
        x.player(0, 0);
        due("a later one", x.image(), 8);
        x.turn(2);
        text(x, 0, "goal 9;rally 1;block 1;serve 2 3;break 4");
        x.seed(5);
        x.player(6, 6);
        due("restore", x.restore(), 8);
        statuses(x, 0, 8, 6, 1, 1, 0, 0, 0, 2, 7, 99);
        statuses(x, 18, 1, 2, 333, 4);
        floor(x, 5, 0, 1, 2, 3, 4);
        due("nothing yet", new ToLiftToStrike().image(), 0);
    }

    private static void promise42() {
        ToLiftToStrike x = told("player 1 4;player 3 5;on 2 1;goal 1;rally 1");
        int[] c = counts(x);
        refused(x, c, "no image", x.restore(), -6);
        x.image();
        x.player(0, 0);
        for (int s = 0; s < 3; s++) x.show(s, s);
        x.show(6, 2);
        x.show(7, 2);
        x.row(3, 2, 4);
        x.put(0, 2);
        x.rally(0);
        due("fault", text(x, 4, "x"), -6);
        int[] d = counts(x);
        due("restore", x.restore(), 2);
        for (int n = 1; n <= 7; n++) due("refusals stay", x.status(10 + n), d[n]);
        x.show(5, 2);
        due("no such one to show", x.holds(5), -1);
        due("the fault stays", x.fault(), 0);
        due("holds", x.holds(0), 0);
        due("holds", x.holds(1), 1);
        due("no such one now", x.holds(2) + x.holds(6) + x.holds(7), -3);
        due("nothing there now", x.says(7, 0), -3);
        due("a row stays", x.holds(3), 102);
        due("a row stays", x.holds(4), 100);
        floor(x, -1, -1, -1, 1, -1, -1);
        statuses(x, 0, 2, 1, 0, 0, 1, 1, 0, 1);
        due("the next number", x.player(6, 9), 2);
        due("again", x.restore(), 2);
        statuses(x, 0, 2);
    }

    private static void promise43() {
        ToLiftToStrike x = told(SEVEN, "goal 2;rally 1;rally 1;rally 0;rally 0;rally 0;block 12;serve 1 7;break 5");
        x.seed(-8);
        x.act(1, 0, 1);
        statuses(x, -1, -1, 7, 6, 0, 1, 1, 1, 1, 5, 12, -8, 2, 0, 0, 0, 0, 0, 0, 0, 1, 7, 5, 2, -1);
        due("far", x.status(Integer.MAX_VALUE) + x.status(Integer.MIN_VALUE), -2);
        x.put(0, -1);
        due("on", x.status(1), 5);
        x.rally(1);
        statuses(x, 2, 1, 1, 0);
        x.row(8, 0, 0);
        x.row(9, 0, 0);
        x.at(9);
        statuses(x, 11, 3, 0, 0, 0, 0, 0, 0);
    }

    private static void oneToFifteen() {
        for (promise = 1; promise <= 15; promise++) {
            switch (promise) {
                case 1: promise1(); break;
                case 2: promise2(); break;
                case 3: promise3(); break;
                case 4: promise4(); break;
                case 5: promise5(); break;
                case 6: promise6(); break;
                case 7: promise7(); break;
                case 8: promise8(); break;
                case 9: promise9(); break;
                case 10: promise10(); break;
                case 11: promise11(); break;
                case 12: promise12(); break;
                case 13: promise13(); break;
                case 14: promise14(); break;
                default: promise15();
            }
        }
    }

    private static void sixteenToThirty() {
        for (promise = 16; promise <= 30; promise++) {
            switch (promise) {
                case 16: promise16(); break;
                case 17: promise17(); break;
                case 18: promise18(); break;
                case 19: promise19(); break;
                case 20: promise20(); break;
                case 21: promise21(); break;
                case 22: promise22(); break;
                case 23: promise23(); break;
                case 24: promise24(); break;
                case 25: promise25(); break;
                case 26: promise26(); break;
                case 27: promise27(); break;
                case 28: promise28(); break;
                case 29: promise29(); break;
                default: promise30();
            }
        }
    }

    private static void thirtyOneToFortyThree() {
        for (promise = 31; promise <= 43; promise++) {
            switch (promise) {
                case 31: promise31(); break;
                case 32: promise32(); break;
                case 33: promise33(); break;
                case 34: promise34(); break;
                case 35: promise35(); break;
                case 36: promise36(); break;
                case 37: promise37(); break;
                case 38: promise38(); break;
                case 39: promise39(); break;
                case 40: promise40(); break;
                case 41: promise41(); break;
                case 42: promise42(); break;
                default: promise43();
            }
        }
    }

    public static void main(String[] args) {
        oneToFifteen();
        sixteenToThirty();
        thirtyOneToFortyThree();
        System.out.println(wrong == 0 ? "all promises hold" : wrong + " answers are not as due");
        if (wrong != 0) System.exit(1);
    }
}
