/** The words of each promise, each tried at its edges: too small, too large, empty, full, refused. */
public final class PromiseWordsTest extends Words {
    private static final int[] NO_SHELVES = {-1, 8, MIN, MAX};
    private static final int[] NO_PLACES = {-1, 6, MIN, MAX};
    private static final int[] NO_FORCES = {-1, 10, MIN, MAX};
    private static final int[] NEITHER = {-1, 2, MIN, MAX};

    private static void promise1() {
        promise(1);
        says("No PLAYERS, nobody ON THE FLOOR.");
        statuses(-1, -1, 0, 0, 0, 0, 1, 0, 0, 0, 30, 1, 0, 0, 0, 0, 0, 0, 0, 0, 5, 3, 400, 15, -1);
        floor(-1, -1, -1, -1, -1, -1);
        for (int s = 0; s < 8; s++) due(x.holds(s), -1);
        due(x.fault(), -1);
        due(x.trace(0), -1);
        no(x.playerOf(0, 0), -15);
        no(x.restore(), -6);
        seven();
        fill(0, 0, 1);
        ToLiftToStrike other = new ToLiftToStrike();
        due(other.status(0) + other.status(1) + other.status(16) + other.holds(0), -1);
        due(x.status(0), 7);
    }

    private static void promise2() {
        promise(2);
        says("SHELF s holds a new ROW: 1.");
        due(x.row(0, 0, 3), 1);
        due(x.set(0, 2, 5), 1);
        due(x.row(0, 0, 3), 1);
        due(x.element(0, 2), 0);
        due(x.row(0, 2, 2), 1);
        due(x.holds(0), 102);
        no(x.set(0, 2, 5), -5);
        due(x.row(7, 3, 160), 1);
        due(x.set(7, 159, 5), 1);
        x.player(0, 0);
        x.show(1, 0);
        due(x.row(1, 1, 0), 1);
        due(x.holds(1), 101);
        says("-1;");
        for (int s : NO_SHELVES) no(x.row(s, 0, 1), -1);
        no(x.row(8, 4, -1), -1);
        no(x.row(8, 0, 161), -1);
        says("-4;");
        due(x.row(0, 0, 2), 1);
        no(x.row(0, 0, -1), -4);
        no(x.row(0, 0, MIN), -4);
        no(x.row(0, 4, -1), -4);
        due(x.set(0, 1, 1), 1);
        due(x.row(0, 0, 0), 1);
        says("-6 SORT;");
        no(x.row(0, 4, 1), -6);
        no(x.row(0, -1, 1), -6);
        no(x.row(0, MAX, 1), -6);
        no(x.row(0, MIN, 1), -6);
        no(x.row(0, 4, 161), -6);
        due(x.holds(0), -1);
        says("-7 n above 160.");
        no(x.row(0, 0, 161), -7);
        no(x.row(0, 3, MAX), -7);
        due(x.holds(0), -1);
        due(x.row(0, 3, 160), 1);
    }

    private static void promise3() {
        promise(3);
        says("Element i of the ROW becomes v: 1.");
        x.row(0, 3, 3);
        due(x.set(0, 0, Long.MIN_VALUE), 1);
        due(x.set(0, 2, Long.MAX_VALUE), 1);
        due(x.element(0, 0), Long.MIN_VALUE);
        due(x.element(0, 1), 0);
        due(x.element(0, 2), Long.MAX_VALUE);
        says("-1;");
        for (int s : NO_SHELVES) no(x.set(s, -1, 0), -1);
        says("-2;");
        x.player(0, 0);
        x.show(0, 0);
        no(x.set(0, -1, 0), -2);
        no(x.set(0, 0, 0), -2);
        says("-3;");
        no(x.set(7, -1, 0), -3);
        no(x.set(0, 0, 0), -3);
        says("-5.");
        x.row(0, 0, 3);
        no(x.set(0, 3, 0), -5);
        no(x.set(0, -1, 0), -5);
        no(x.set(0, MAX, 0), -5);
        no(x.set(0, MIN, 0), -5);
        due(x.set(0, 2, 0), 1);
        x.row(1, 0, 0);
        no(x.set(1, 0, 0), -5);
        x.row(1, 0, 160);
        no(x.set(1, 160, 0), -5);
    }

    private static void elements(int s, long... want) {
        for (int i = 0; i < want.length; i++) due(x.element(s, i), want[i]);
    }

    private static void promise4() {
        promise(4);
        says("Elements i, i + 1, .. of the ROW in SHELF p, n of them, come to elements j, j + 1, .. of that in q");
        fill(0, 2, 1, 2, 3, 4);
        fill(1, 2, 5, 6, 7);
        due(x.copy(0, 1, 2, 1, 2), 1);
        elements(1, 5, 3, 4, 0);
        elements(0, 1, 2, 3, 4, 0);
        due(x.copy(0, 1, 0, 0, 3), 1);
        elements(1, 1, 2, 3, 0);
        x.row(2, 3, 160);
        x.row(3, 3, 160);
        x.set(2, 159, -1);
        due(x.copy(2, 3, 0, 0, 160), 1);
        due(x.element(3, 159), -1);
        says("(as they were ahead): 1.");
        fill(0, 0, 1, 2, 3, 4);
        due(x.copy(0, 0, 0, 1, 3), 1);
        elements(0, 1, 1, 2, 3);
        due(x.copy(0, 0, 1, 0, 3), 1);
        elements(0, 1, 2, 3, 3);
        due(x.copy(0, 0, 0, 0, 4), 1);
        elements(0, 1, 2, 3, 3);
        says("-1;");
        x.row(0, 0, 1);
        for (int s : NO_SHELVES) {
            no(x.copy(s, 1, -1, -1, -1), -1);
            no(x.copy(0, s, 0, 0, 0), -1);
        }
        x.player(0, 0);
        x.show(1, 0);
        no(x.copy(8, 1, 0, 0, 0), -1);
        no(x.copy(1, 8, 0, 0, 0), -1);
        says("-2 also of two SORTS (when both hold something);");
        x.player(0, 0);
        x.show(0, 0);
        for (int sort = 0; sort < 4; sort++) x.row(1 + sort, sort, 2);
        for (int p = 1; p < 5; p++) {
            for (int q = 1; q < 5; q++) if (p != q) no(x.copy(p, q, 0, 0, -1), -2);
        }
        no(x.copy(0, 1, 0, 0, 0), -2);
        no(x.copy(1, 0, 0, 0, 0), -2);
        no(x.copy(0, 0, 0, 0, 0), -2);
        no(x.copy(0, 7, 0, 0, 0), -2);
        no(x.copy(7, 0, 0, 0, 0), -2);
        says("-3 either;");
        x.row(0, 1, 1);
        no(x.copy(0, 1, 0, 0, -1), -3);
        no(x.copy(1, 0, 0, 0, -1), -3);
        no(x.copy(1, 2, 0, 0, -1), -3);
        says("-4 n;");
        x.row(0, 0, 2);
        no(x.copy(0, 0, 0, 0, -1), -4);
        no(x.copy(0, 0, -1, -1, MIN), -4);
        due(x.copy(0, 0, 0, 0, 0), 1);
        says("-5 i or j below 0, or an end that isn't there.");
        fill(0, 0, 1, 2, 3);
        fill(1, 0, 4, 5);
        no(x.copy(0, 1, -1, 0, 1), -5);
        no(x.copy(0, 1, 0, -1, 1), -5);
        no(x.copy(0, 1, -1, 0, 0), -5);
        no(x.copy(0, 1, 0, -1, 0), -5);
        no(x.copy(0, 1, 2, 0, 2), -5);
        no(x.copy(0, 1, 0, 1, 2), -5);
        no(x.copy(0, 1, 4, 0, 0), -5);
        no(x.copy(0, 1, 0, 3, 0), -5);
        no(x.copy(0, 1, 0, 0, 3), -5);
        no(x.copy(1, 0, 0, 0, 3), -5);
        no(x.copy(0, 0, 1, 0, MAX), -5);
        no(x.copy(0, 0, MAX, 0, 1), -5);
        no(x.copy(0, 0, 0, MAX, 1), -5);
        no(x.copy(0, 0, MAX, MAX, MAX), -5);
        no(x.copy(0, 0, MIN, MIN, MAX), -5);
        elements(0, 1, 2, 3);
        elements(1, 4, 5);
        due(x.copy(0, 1, 3, 2, 0), 1);
        due(x.copy(0, 1, 1, 0, 2), 1);
        elements(1, 2, 3);
    }

    private static void promise5() {
        promise(5);
        says("Element i of the ROW;");
        fill(0, 3, Long.MIN_VALUE, -1);
        elements(0, Long.MIN_VALUE, -1);
        fill(1, 0, -1, 127);
        elements(1, -1, 127);
        says("0 if there is none (nothing is refused).");
        fill(0, 0, 1, 2, 3);
        fill(0, 0, 4);
        for (int i : new int[] {-1, 1, 2, 160, MIN, MAX}) due(x.element(0, i), 0);
        x.row(1, 0, 0);
        due(x.element(1, 0), 0);
        due(x.element(2, 0), 0);
        for (int s : NO_SHELVES) due(x.element(s, 0), 0);
        x.player(0, 0);
        x.show(0, 0);
        due(x.element(0, 0), 0);
        x.row(3, 3, 160);
        x.set(3, 159, 7);
        due(x.element(3, 160), 0);
        due(x.element(3, 159), 7);
        refusals();
    }

    private static void promise6() {
        promise(6);
        says("SHELF s holds a PLAYER, or NOTHING (player NONE): 1, 0.");
        x.player(0, 0);
        x.player(0, 0);
        due(x.show(0, 0), 1);
        due(x.show(7, 1), 1);
        due(x.show(3, 1), 1);
        due(x.holds(0), 0);
        due(x.holds(7), 1);
        due(x.show(7, ToLiftToStrike.NONE), 0);
        due(x.holds(7), -1);
        due(x.show(7, -1), 0);
        fill(1, 3, 5);
        due(x.show(1, -1), 0);
        due(x.holds(1), -1);
        due(x.element(1, 0), 0);
        fill(1, 3, 5);
        due(x.show(1, 0), 1);
        due(x.holds(1), 0);
        refusals();
        says("-1.");
        no(x.show(0, 0), -1);
        x.player(0, 0);
        for (int s : NO_SHELVES) {
            no(x.show(s, 0), -1);
            no(x.show(s, -1), -1);
        }
        for (int p : new int[] {1, -2, 12, MIN, MAX, 100}) no(x.show(0, p), -1);
        due(x.holds(0), -1);
    }

    private static void promise7() {
        promise(7);
        says("What SHELF s holds: NONE NOTHING, or no such SHELF;");
        for (int s = 0; s < 8; s++) due(x.holds(s), ToLiftToStrike.NONE);
        for (int s : NO_SHELVES) due(x.holds(s), ToLiftToStrike.NONE);
        refusals();
        says("a PLAYER's number;");
        for (int p = 0; p < 12; p++) x.player(0, 0);
        for (int p = 0; p < 12; p++) {
            x.show(p % 8, p);
            due(x.holds(p % 8), p);
        }
        says("100 and the SORT of a ROW.");
        for (int sort = 0; sort < 4; sort++) {
            x.row(sort + 4, sort, 160 - 40 * sort);
            due(x.holds(sort + 4), 100 + sort);
        }
        x.row(7, 0, 0);
        due(x.holds(7), 100);
    }

    /** The PLAYERS of seven(), each on the SHELF of his number. */
    private static void shown() {
        seven();
        for (int s = 0; s < 7; s++) x.show(s, s);
    }

    private static void promise8() {
        promise(8);
        says("What the PLAYER in SHELF s, taken for one of a KIND, says: PLAYER his PLACE (NONE: not ON);");
        shown();
        for (int s = 0; s < 7; s++) due(x.says(s, PLAYER), s == 6 ? -1 : s);
        x.turn(1);
        for (int s = 0; s < 6; s++) due(x.says(s, PLAYER), (s + 1) % 6);
        says("STRIKER, TALL, QUICK his BLOW by a good reception;");
        shown();
        due(x.says(0, STRIKER), 53);
        due(x.says(1, STRIKER), 65);
        due(x.says(2, STRIKER), 62);
        due(x.says(1, TALL), 65);
        due(x.says(2, QUICK), 62);
        says("LIFTER his a;");
        shown();
        due(x.says(3, LIFTER), 7);
        x.player(LIFTER, 0);
        x.player(LIFTER, 9);
        x.show(0, 7);
        due(x.says(0, LIFTER), 0);
        x.show(0, 8);
        due(x.says(0, LIFTER), 9);
        says("SMALL, LIBERO his SKILL.");
        shown();
        due(x.says(4, SMALL), 74);
        due(x.says(5, SMALL), 96);
        due(x.says(5, LIBERO), 96);
        says("-1 SHELF, KIND;");
        shown();
        x.row(7, 0, 1);
        for (int s : NO_SHELVES) no(x.says(s, PLAYER), -1);
        for (int kind : new int[] {-1, 7, MIN, MAX}) {
            no(x.says(0, kind), -1);
            no(x.says(7, kind), -1);
        }
        x.show(7, -1);
        no(x.says(7, 7), -1);
        says("-2 also a PLAYER of another KIND;");
        shown();
        x.row(7, 0, 1);
        no(x.says(7, PLAYER), -2);
        no(x.says(7, LIBERO), -2);
        int[][] others = {{0, LIFTER}, {0, TALL}, {0, SMALL}, {0, QUICK}, {0, LIBERO}, {1, LIFTER}, {1, QUICK}, {2, TALL},
            {3, STRIKER}, {3, SMALL}, {4, STRIKER}, {4, LIBERO}, {5, STRIKER}, {5, LIFTER}, {6, STRIKER}, {6, LIFTER}, {6, SMALL}};
        for (int[] other : others) no(x.says(other[0], other[1]), -2);
        says("-3.");
        for (int kind = 0; kind < 7; kind++) no(x.says(kind, kind), -3);
        x.player(0, 0);
        x.show(0, 0);
        x.show(0, -1);
        no(x.says(0, 0), -3);
        says("(NONE isn't refused.)");
        x.player(0, 0);
        x.show(0, 0);
        due(x.says(0, PLAYER), -1);
        refusals();
    }

    private static void promise9() {
        promise(9);
        says("A PLAYER: the number.");
        for (int p = 0; p < 12; p++) due(x.player(p % 7, p % 10), p);
        for (int p = 0; p < 12; p++) {
            due(x.playerOf(p, 0), p % 7);
            due(x.playerOf(p, 1), p % 10);
            due(x.playerOf(p, 2), -1);
        }
        says("-1 KIND;");
        for (int kind : new int[] {-1, 7, MIN, MAX}) no(x.player(kind, 0), -1);
        no(x.player(7, 10), -1);
        due(x.player(6, 0), 0);
        for (int p = 1; p < 12; p++) x.player(0, 0);
        no(x.player(7, 0), -1);
        says("-6;");
        for (int a : NO_FORCES) no(x.player(0, a), -6);
        due(x.player(0, 9), 0);
        for (int p = 1; p < 12; p++) x.player(0, 0);
        no(x.player(0, 10), -6);
        says("-7.");
        for (int p = 0; p < 11; p++) x.player(0, 0);
        due(x.player(0, 0), 11);
        no(x.player(0, 0), -7);
        no(x.player(6, 9), -7);
        due(x.status(0), 12);
    }

    private static void promise10() {
        promise(10);
        says("Of a PLAYER: 0 KIND, 1 a, 2 PLACE (NONE), 3 SKILL, 4 BLOW by a bad, 5 by a good reception.");
        seven();
        int[][] want = {{1, 4, 0, 34, 53, 53}, {3, 5, 1, 30, 65, 65}, {5, 6, 2, 36, 47, 62}, {2, 7, 3, 54, 27, 27},
            {4, 8, 4, 74, 33, 33}, {6, 9, 5, 96, 0, 0}, {0, 3, -1, 46, 33, 33}};
        for (int p = 0; p < 7; p++) for (int what = 0; what < 6; what++) due(x.playerOf(p, what), want[p][what]);
        refusals();
        says("-15: no such one, another what (counted as -5).");
        no(x.playerOf(0, 0), -15);
        x.player(0, 0);
        for (int p : new int[] {1, -1, 12, MIN, MAX}) no(x.playerOf(p, 0), -15);
        for (int what : NO_PLACES) no(x.playerOf(0, what), -15);
        no(x.playerOf(1, 6), -15);
    }

    private static void promise11() {
        promise(11);
        says("Who is at a PLACE;");
        seven();
        floor(0, 1, 2, 3, 4, 5);
        x.put(5, 6);
        due(x.at(5), 6);
        says("NONE.");
        floor(-1, -1, -1, -1, -1, -1);
        refusals();
        seven();
        x.put(3, -1);
        floor(0, 1, 2, -1, 4, 5);
        says("-11 (counted as -1).");
        for (int place : NO_PLACES) no(x.at(place), -11);
    }

    private static void promise12() {
        promise(12);
        says("A PLAYER (NONE: nobody) is put at a PLACE (nobody is where he was then): who was there (NONE).");
        seven();
        due(x.put(0, 6), 0);
        due(x.put(5, 0), 5);
        due(x.put(1, 0), 1);
        floor(6, 0, 2, 3, 4, -1);
        due(x.put(5, 1), -1);
        due(x.put(5, 1), 1);
        floor(6, 0, 2, 3, 4, 1);
        due(x.put(2, -1), 2);
        due(x.put(2, -1), -1);
        due(x.put(2, 3), -1);
        floor(6, 0, 3, -1, 4, 1);
        refusals();
        says("-11 (counted as -1).");
        no(x.put(0, 0), -11);
        seven();
        for (int place : NO_PLACES) {
            no(x.put(place, 0), -11);
            no(x.put(place, -1), -11);
        }
        for (int p : new int[] {7, -2, 12, MIN, MAX}) no(x.put(0, p), -11);
        floor(0, 1, 2, 3, 4, 5);
    }

    private static void promise13() {
        promise(13);
        says("n TURNS (0 to 5) in truth: who is at PLACE 0 then (NONE).");
        seven();
        due(x.turn(0), 0);
        floor(0, 1, 2, 3, 4, 5);
        due(x.turn(5), 1);
        floor(1, 2, 3, 4, 5, 0);
        due(x.turn(1), 0);
        floor(0, 1, 2, 3, 4, 5);
        due(x.turn(2), 4);
        x.put(3, -1);
        due(x.turn(3), -1);
        refusals();
        says("-16 (counted as -6).");
        seven();
        for (int n : NO_PLACES) no(x.turn(n), -16);
        floor(0, 1, 2, 3, 4, 5);
        anew();
        due(x.turn(5), -1);
        refusals();
    }

    private static void asks(String words, int what, int least, int most, int first) {
        says(words);
        due(x.ask(what, first), first);
        due(x.ask(what, least), first);
        due(x.ask(what, most), least);
        for (int v : new int[] {least - 1, most + 1, MIN, MAX}) no(x.ask(what, v), -6);
        due(x.ask(what, least), most);
        for (int other = 0; other < 5; other++) if (other != what) due(x.status(other == 0 ? 8 : 17 + other), new int[] {30, 5, 3, 400, 15}[other]);
    }

    private static void promise14() {
        promise(14);
        asks("BLOCK (what 0),", 0, 0, 60, 30);
        asks("PLACE of THEIR serve (1),", 1, 0, 5, 5);
        asks("its FORCE (2),", 2, 0, 9, 3);
        asks("BREAK (3),", 3, 0, 1000, 400);
        asks("GOAL (4;", 4, 1, 25, 15);
        says("POINTS are 0 then)");
        x.score(14, 13, 0);
        for (int what = 0; what < 4; what++) x.ask(what, 1);
        no(x.ask(4, 26), -6);
        no(x.ask(4, 0), -6);
        statuses(2, 14, 13, 0);
        due(x.ask(4, 15), 15);
        statuses(2, 0, 0, 0, 0, 0, 0);
        says("becomes v: what it was.");
        for (int v = 0; v < 10; v++) due(x.ask(2, v), v == 0 ? 3 : v - 1);
        says("-6.");
        for (int what : new int[] {-1, 5, MIN, MAX}) for (int v = -1; v < 2; v++) no(x.ask(what, v), -6);
        statuses(18, 5, 3, 400, 15);
        statuses(8, 30, 1);
    }

    private static void promise15() {
        promise(15);
        says("POINTS are us, them (below GOAL), who SERVES: 1.");
        due(x.score(14, 13, 0), 1);
        statuses(2, 14, 13, 0, 0, 0, 0);
        due(x.score(0, 14, 1), 1);
        statuses(2, 0, 14, 1);
        due(x.score(14, 14, 1), 1);
        x.ask(4, 1);
        due(x.score(0, 0, 0), 1);
        statuses(2, 0, 0, 0);
        no(x.score(1, 0, 0), -6);
        x.ask(4, 25);
        due(x.score(24, 24, 1), 1);
        no(x.score(25, 24, 1), -6);
        statuses(2, 24, 24, 1);
        says("-6.");
        due(x.score(3, 4, 0), 1);
        no(x.score(15, 0, 1), -6);
        no(x.score(0, 15, 1), -6);
        for (int v : new int[] {-1, 16, MIN, MAX}) {
            no(x.score(v, 0, 1), -6);
            no(x.score(0, v, 1), -6);
            no(x.score(0, 0, v), -6);
        }
        no(x.score(0, 0, 2), -6);
        statuses(2, 3, 4, 0);
    }

    private static void promise16() {
        promise(16);
        says("A TEAM by the ROW in SHELF s: how many ITEMS.");
        due(text("turn"), 1);
        due(text("player 6 9;on 5 0;turn"), 3);
        floor(0, -1, -1, -1, -1, -1);
        says("-1;");
        for (int s : NO_SHELVES) no(x.team(s), -1);
        says("-2;");
        x.player(0, 0);
        x.show(0, 0);
        no(x.team(0), -2);
        says("-3;");
        no(x.team(0), -3);
        no(x.team(7), -3);
        says("-6 a FAULT.");
        x.row(0, 0, 0);
        no(x.team(0), -6);
        no(text("player 0 0;turn;"), -6);
        due(x.status(0), 0);
    }

    private static void promise17() {
        promise(17);
        says("The FAULT of the latest team() that came to a ROW;");
        fault("turn;x", 5);
        fault("tux", 2);
        no(x.team(8), -1);
        no(x.team(0), -3);
        x.player(0, 0);
        x.show(0, 0);
        no(x.team(0), -2);
        due(x.fault(), 2);
        x.row(7, 0, 1);
        x.image();
        x.restore();
        due(x.fault(), 2);
        says("NONE: there was none, or none yet.");
        due(x.fault(), -1);
        no(x.team(0), -3);
        due(x.fault(), -1);
        fault("", 0);
        told("turn");
        due(x.fault(), -1);
    }

    private static void places(String words, boolean force) {
        says(words);
        seven();
        for (int place : NO_PLACES) {
            no(force ? x.good(place, 0) : x.side(place, 0), -1);
            no(force ? x.good(place, 10) : x.side(place, 10), -1);
        }
    }

    private static void promise18() {
        promise(18);
        says("GOOD.");
        seven();
        int[] skills = {34, 30, 36, 54, 74, 96};
        for (int place = 0; place < 6; place++) {
            for (int force = 0; force < 10; force++) due(x.good(place, force), Math.max(0, skills[place] - 5 * force));
        }
        x.put(5, -1);
        due(x.good(5, 0), 0);
        due(x.good(5, 9), 0);
        refusals();
        places("-1;", true);
        says("-6 FORCE.");
        seven();
        for (int force : NO_FORCES) no(x.good(5, force), -6);
    }


    private static void promise19() {
        promise(19);
        says("OPEN (bits of PLACES) by a reception (0, 1).");
        due(x.open(0), 0);
        due(x.open(1), 0);
        seven();
        for (int bits = 7; bits >= 0; bits--) {
            for (int place = 0; place < 3; place++) x.put(place, (bits >> place & 1) != 0 ? place : -1);
            due(x.open(1), bits);
            due(x.open(0), bits & 1);
        }
        refusals();
        says("-6.");
        seven();
        for (int reception : NEITHER) no(x.open(reception), -6);
    }

    private static void promise20() {
        promise(20);
        says("VALUE.");
        due(x.value(0), 0);
        due(x.value(1), 0);
        seven();
        due(x.value(1), 500);
        due(x.value(0), 230);
        x.ask(0, 60);
        due(x.value(1), 400);
        due(x.value(0), 0);
        x.ask(0, 53);
        due(x.value(0), 0);
        x.ask(0, 52);
        due(x.value(0), 10);
        x.ask(0, 0);
        due(x.value(1), 650);
        due(x.value(0), 530);
        refusals();
        says("-6.");
        seven();
        for (int reception : NEITHER) no(x.value(reception), -6);
    }

    private static void promise21() {
        promise(21);
        says("OFTEN (bits of PLACES;");
        seven();
        due(x.often(1), 7);
        due(x.often(0), 1);
        x.ask(0, 21);
        due(x.often(1), 6);
        x.ask(0, 22);
        due(x.often(1), 7);
        x.ask(0, 3);
        due(x.often(1), 2);
        x.ask(0, 4);
        due(x.often(1), 6);
        says("0: nobody is OPEN).");
        due(x.often(1), 0);
        due(x.often(0), 0);
        seven();
        x.put(0, -1);
        due(x.often(0), 0);
        due(x.often(1), 6);
        x.put(1, -1);
        x.put(2, -1);
        due(x.often(1), 0);
        says("-6.");
        seven();
        for (int reception : NEITHER) no(x.often(reception), -6);
    }

    private static void promise22() {
        promise(22);
        says("BLOCKED of a PLACE (0 if it isn't set).");
        for (int place = 0; place < 6; place++) due(x.blocked(place % 2, place), 0);
        seven();
        int[] good = {100, 500, 400, 0, 0, 0};
        for (int place = 0; place < 6; place++) {
            due(x.blocked(1, place), good[place]);
            due(x.blocked(0, place), place == 0 ? 1000 : 0);
        }
        x.ask(0, 21);
        due(x.blocked(1, 0), 0);
        x.ask(0, 0);
        for (int place = 0; place < 6; place++) due(x.blocked(1, place), 0);
        refusals();
        says("-1;");
        seven();
        for (int place : NO_PLACES) {
            no(x.blocked(1, place), -1);
            no(x.blocked(2, place), -1);
        }
        says("-6.");
        seven();
        for (int reception : NEITHER) no(x.blocked(reception, 0), -6);
    }

    private static void promise23() {
        promise(23);
        says("SIDE.");
        seven();
        due(x.side(5, 3), 498);
        due(x.side(1, 0), 311);
        due(x.side(1, 1), 318);
        due(x.side(5, 9), 538);
        due(x.side(0, 9), 437);
        refusals();
        places("-1;", false);
        says("-6.");
        seven();
        for (int force : NO_FORCES) no(x.side(5, force), -6);
    }

    private static void promises24To27() {
        promise(24);
        says("WORTH.");
        due(x.worth(), 0);
        seven();
        due(x.worth(), 270);
        x.ask(0, 0);
        due(x.worth(), 120);
        x.put(0, -1);
        due(x.worth(), 650);
        promise(25);
        says("HARD.");
        due(x.hard(), 0);
        seven();
        due(x.hard(), 10);
        x.turn(4);
        due(x.hard(), 50);
        promise(26);
        says("BOLD.");
        due(x.bold(0), 9);
        six(LIBERO, 9, TALL, 9);
        x.ask(0, 0);
        due(x.bold(0), 0);
        due(x.bold(5), 9);
        refusals();
        says("-1.");
        for (int place : NO_PLACES) no(x.bold(place), -1);
        promise(27);
        says("STRONG (what 0), WEAK (1).");
        seven();
        due(x.strong(0), 0);
        due(x.strong(1), 3);
        x.turn(1);
        due(x.strong(0), 5);
        due(x.strong(1), 2);
        refusals();
        says("-5.");
        for (int what : NEITHER) no(x.strong(what), -5);
    }

    private static void promise28() {
        promise(28);
        says("CHANCE from us, them (0 to GOAL, not both GOAL), who serves (0, 1), behind so many TURNS (0 to 5).");
        seven();
        x.ask(4, 2);
        due(x.chance(2, 0, 0, 0), 1000000);
        due(x.chance(2, 1, 1, 5), 1000000);
        due(x.chance(0, 2, 0, 0), 0);
        due(x.chance(1, 2, 1, 5), 0);
        due(x.chance(1, 1, 0, 0), 400000);
        due(x.chance(1, 1, 0, 5), 400000);
        due(x.chance(1, 1, 1, 0), 498000);
        due(x.chance(1, 1, 1, 1), 326000);
        due(x.chance(0, 0, 1, 0), 396607);
        no(x.chance(2, 2, 0, 0), -6);
        no(x.chance(3, 0, 0, 0), -6);
        no(x.chance(0, 3, 0, 0), -6);
        x.ask(4, 25);
        due(x.chance(25, 0, 0, 0), 1000000);
        due(x.chance(24, 24, 1, 1), 326000);
        no(x.chance(25, 25, 0, 0), -6);
        no(x.chance(26, 0, 0, 0), -6);
        x.ask(4, 1);
        due(x.chance(0, 1, 1, 0), 0);
        due(x.chance(1, 0, 1, 0), 1000000);
        no(x.chance(1, 1, 1, 0), -6);
        says("-6.");
        for (int v : new int[] {-1, 16, MIN, MAX}) {
            no(x.chance(v, 0, 0, 0), -6);
            no(x.chance(0, v, 0, 0), -6);
        }
        for (int serves : NEITHER) no(x.chance(0, 0, serves, 0), -6);
        for (int turns : NO_PLACES) no(x.chance(0, 0, 0, turns), -6);
        no(x.chance(15, 0, 2, 0), -6);
        no(x.chance(15, 0, 0, 6), -6);
    }

    private static void promises29And30() {
        promise(29);
        says("BEGIN.");
        due(x.begin(0), 0);
        due(x.begin(1), 0);
        x.player(STRIKER, 0);
        x.put(1, 0);
        x.ask(4, 1);
        due(x.begin(1), 5);
        due(x.begin(0), 0);
        refusals();
        says("-6.");
        for (int serves : NEITHER) no(x.begin(serves), -6);
        promise(30);
        says("CHANGE;");
        seven();
        x.ask(4, 1);
        x.ask(1, 3);
        x.put(5, -1);
        due(x.change(), 305);
        floor(0, 1, 2, 3, 4, -1);
        anew();
        x.ask(4, 1);
        x.ask(0, 0);
        for (int p = 0; p < 11; p++) x.player(PLAYER, 0);
        x.player(STRIKER, 0);
        x.put(0, 0);
        due(x.change(), 11);
        x.put(0, -1);
        x.put(5, 11);
        x.ask(1, 5);
        due(x.change(), -1);
        says("NONE.");
        due(x.change(), -1);
        x.player(TALL, 9);
        due(x.change(), -1);
        x.put(0, 0);
        due(x.change(), -1);
        refusals();
    }

    private static void promise31() {
        promise(31);
        says("TOLD RALLIES by the first n elements (0 to 160) of the ROW in SHELF s: WRONG; NONE.");
        fill(0, 2, 1, 0, 2);
        due(x.judge(0, 0), -1);
        due(x.judge(0, 2), -1);
        due(x.judge(0, 3), 2);
        x.row(0, 3, 160);
        due(x.judge(0, 160), -1);
        x.set(0, 159, -1);
        due(x.judge(0, 160), 159);
        due(x.judge(0, 159), -1);
        x.row(0, 0, 0);
        due(x.judge(0, 0), -1);
        refusals();
        told5("-11;", "-12;", "-13;", "-14 n;", "-15 fewer elements (counted as -1 to -5).", 0);
    }

    private static int asked(int call, int s, int n) {
        switch (call) {
            case 0: return x.judge(s, n);
            case 1: return x.behind(s, n, 0);
            case 2: return x.run(s, n, 0);
            default: return x.whom(s, n, 0);
        }
    }

    /** What all have in common that take the first n elements of a ROW. */
    private static void told5(String nobody, String other, String nothing, String below, String beyond, int call) {
        int ten = call == 0 || call == 3 ? 10 : 0;
        says(nobody);
        for (int s : NO_SHELVES) no(asked(call, s, -1), -1 - ten);
        says(other);
        x.player(0, 0);
        x.show(0, 0);
        no(asked(call, 0, -1), -2 - ten);
        no(asked(call, 0, 0), -2 - ten);
        says(nothing);
        no(asked(call, 0, -1), -3 - ten);
        no(asked(call, 7, 0), -3 - ten);
        says(below);
        x.row(0, 0, 2);
        no(asked(call, 0, -1), -4 - ten);
        no(asked(call, 0, MIN), -4 - ten);
        says(beyond);
        x.player(0, 0);
        x.row(0, 0, 2);
        for (int n : new int[] {3, 160, 161, MAX}) no(asked(call, 0, n), -5 - ten);
        x.set(0, 0, 9);
        no(asked(call, 0, 3), -5 - ten);
        x.set(0, 0, 0);
        due(asked(call, 0, 2) < 0 && call > 0 ? -1 : 0, 0);
        x.row(0, 0, 160);
        no(asked(call, 0, 161), -5 - ten);
        due(asked(call, 0, 160) < 0 && call > 0 ? -1 : 0, 0);
        x.row(0, 0, 0);
        no(asked(call, 0, 1), -5 - ten);
        refusals();
    }

    private static void promise32() {
        promise(32);
        says("Behind them: POINTS of US (what 0), of THEM (1), who serves (2), TURNS gone (3), SETS of US (4), of THEM (5) by them.");
        x.row(0, 0, 0);
        for (int what = 0; what < 6; what++) due(x.behind(0, 0, what), what == 2 ? 1 : 0);
        x.ask(4, 1);
        x.rally(1);
        x.rally(0);
        x.rally(0);
        fill(0, 0, 1, 1, 0);
        int[] want = {0, 0, 0, 1, 2, 1};
        for (int what = 0; what < 6; what++) due(x.behind(0, 3, what), want[what]);
        x.ask(4, 25);
        x.row(0, 0, 160);
        for (int i = 0; i < 160; i++) x.set(0, i, 1);
        int[] full = {10, 0, 0, 6, 6, 0};
        for (int what = 0; what < 6; what++) due(x.behind(0, 160, what), full[what]);
        refusals();
        told5("-1;", "-2;", "-3;", "-4;", "-5 also another what;", 1);
        anew();
        fill(0, 0, 9);
        for (int what : NO_PLACES) {
            no(x.behind(0, 0, what), -5);
            no(x.behind(0, 1, what), -5);
        }
        says("-6 it is WRONG.");
        fill(0, 0, 1, 0, 2);
        no(x.behind(0, 3, 0), -6);
        due(x.behind(0, 2, 1), 1);
        fill(0, 0, -1);
        no(x.behind(0, 1, 0), -6);
        due(x.behind(0, 0, 0), 0);
    }

    private static void promise33() {
        promise(33);
        says("RUN of ones (sort 1), noughts (0).");
        fill(0, 0, 1, 0, 0, 1, 1, 1);
        due(x.run(0, 0, 0), 0);
        due(x.run(0, 0, 1), 0);
        due(x.run(0, 1, 0), 0);
        due(x.run(0, 1, 1), 1);
        due(x.run(0, 6, 0), 2);
        due(x.run(0, 6, 1), 3);
        x.row(0, 0, 160);
        due(x.run(0, 160, 0), 160);
        refusals();
        told5("-1;", "-2;", "-3;", "-4;", "-5;", 2);
        says("-6 also if it is WRONG.");
        fill(0, 0, 1, 2);
        for (int sort : NEITHER) no(x.run(0, 1, sort), -6);
        no(x.run(0, 0, 2), -6);
        no(x.run(0, 2, 0), -6);
        no(x.run(0, 2, 1), -6);
        due(x.run(0, 1, 1), 1);
    }

    private static void promise34() {
        promise(34);
        says("WHOM HE SET by the first n elements of the ROW in SHELF s: most often (what 0; NONE),");
        seven();
        fill(0, 0, 6, 3, 3, 6, 6);
        int[] most = {-1, 6, 3, 3, 3, 6};
        for (int n = 0; n < 6; n++) due(x.whom(0, n, 0), most[n]);
        x.row(1, 0, 160);
        due(x.whom(1, 160, 0), 0);
        x.row(1, 0, 0);
        due(x.whom(1, 0, 0), -1);
        refusals();
        says("how often another than the time before (1),");
        seven();
        fill(0, 0, 6, 3, 3, 6, 6);
        int[] others = {0, 0, 1, 1, 2, 2};
        for (int n = 0; n < 6; n++) due(x.whom(0, n, 1), others[n]);
        x.row(1, 0, 160);
        for (int i = 0; i < 160; i += 2) x.set(1, i, 1);
        due(x.whom(1, 160, 1), 159);
        says("whether by OFTEN of a good reception now (2).");
        seven();
        fill(0, 0, 0, 1, 2, 3);
        due(x.whom(0, 0, 2), 1);
        due(x.whom(0, 3, 2), 1);
        due(x.whom(0, 4, 2), 0);
        x.ask(0, 21);
        due(x.whom(0, 1, 2), 0);
        x.ask(0, 22);
        due(x.whom(0, 1, 2), 1);
        x.turn(1);
        due(x.whom(0, 2, 2), 1);
        due(x.whom(0, 3, 2), 0);
        x.put(1, -1);
        due(x.whom(0, 1, 2), 0);
        told5("-11;", "-12;", "-13;", "-14;", "-15 also another what;", 3);
        anew();
        fill(0, 0, 9);
        for (int what : new int[] {-1, 3, MIN, MAX}) {
            no(x.whom(0, 0, what), -15);
            no(x.whom(0, 1, what), -15);
        }
        says("-16 an element is no PLAYER (counted as -1 to -6).");
        x.player(0, 0);
        fill(0, 2, 0, 1, -1, MAX);
        due(x.whom(0, 1, 0), 0);
        for (int what = 0; what < 3; what++) no(x.whom(0, 2, what), -16);
        x.player(0, 0);
        due(x.whom(0, 2, 1), 1);
        no(x.whom(0, 3, 1), -16);
        fill(0, 2, MAX);
        no(x.whom(0, 1, 0), -16);
        fill(0, 2, -1);
        no(x.whom(0, 1, 0), -16);
        fill(0, 2, 12);
        for (int p = 0; p < 10; p++) x.player(0, 0);
        no(x.whom(0, 1, 0), -16);
        fill(0, 2, 11);
        due(x.whom(0, 1, 0), 11);
    }

    private static void promises35To38() {
        promise(35);
        says("A rally in truth (1 for US, 0 for THEM): POINTS of US.");
        x.ask(4, 2);
        due(x.rally(1), 1);
        due(x.rally(0), 1);
        due(x.rally(1), 0);
        due(x.rally(0), 0);
        due(x.rally(0), 0);
        statuses(2, 0, 0, 0, 1, 1, 5);
        refusals();
        says("-6.");
        for (int point : NEITHER) no(x.rally(point), -6);
        statuses(2, 0, 0, 1, 0, 0, 0);
        promise(36);
        says("n rallies (1 to 200) BY DRAWS in truth: how many WE won.");
        x.ask(3, 1000);
        x.ask(4, 25);
        x.score(0, 0, 0);
        due(x.rallies(1), 1);
        due(x.rallies(24), 24);
        statuses(2, 0, 0, 1, 1, 0, 25);
        x.ask(3, 0);
        x.score(0, 0, 0);
        due(x.rallies(1), 0);
        statuses(2, 0, 1, 1);
        anew();
        six(TALL, 9);
        x.seed(0);
        due(x.rallies(1), 1);
        floor(-1, 0, -1, -1, -1, -1);
        due(x.rallies(200) >= 0 ? x.status(7) : -1, 201);
        refusals();
        says("-6.");
        for (int n : new int[] {0, 201, -1, MIN, MAX}) no(x.rallies(n), -6);
        statuses(7, 0, 30, 1);
        promise(37);
        says("POINTS, SETS are 0, THEY SERVE: SETS of both ahead.");
        due(x.anew(), 0);
        seven();
        told("goal 1;rally 1;rally 1;rally 0");
        x.ask(4, 9);
        x.score(3, 4, 0);
        due(x.anew(), 3);
        statuses(2, 0, 0, 1, 0, 0, 3, 30, 1);
        floor(4, 5, 0, 1, 2, 3);
        due(x.status(21), 9);
        due(x.anew(), 0);
        refusals();
        promise(38);
        says("SEED becomes v: what it was (nothing is refused).");
        due(x.seed(MIN), 1);
        due(x.seed(MAX), MIN);
        due(x.seed(0), MAX);
        due(x.seed(-1), 0);
        due(x.status(9), -1);
        refusals();
    }

    private static void promises39And40() {
        promise(39);
        says("An ACT of a PLAYER with x.");
        for (int p = 0; p < 12; p++) x.player(0, 9);
        due(x.act(11, 0, 5), 16);
        due(x.act(11, 1, 5), 32);
        due(x.act(11, 2, 5), 32 ^ 7);
        due(x.act(0, 0, MIN), MIN);
        due(x.act(1, 0, MAX), MIN);
        refusals();
        says("0, and no TRACE then: no such PLAYER, act.");
        due(x.act(0, 0, 5), 0);
        x.player(0, 9);
        for (int p : new int[] {1, -1, 12, MIN, MAX}) {
            due(x.act(0, 1, 5), 10);
            due(x.trace(0), 11);
            due(x.act(p, 1, 5), 0);
            due(x.trace(0), -1);
            due(x.status(10), 0);
        }
        for (int act : new int[] {3, -1, MIN, MAX}) {
            due(x.act(0, 1, 5), 10);
            due(x.status(10), 2);
            due(x.act(0, act, 5), 0);
            due(x.trace(0), -1);
            due(x.status(10), 0);
        }
        refusals();
        promise(40);
        says("THE TRACE's i-th body.");
        x.player(LIBERO, 9);
        x.act(0, 2, 5);
        int[] bodies = {50, 12, 71, 11, 70, 51, 10, 70, 51, 10};
        for (int i = 0; i < 10; i++) due(x.trace(i), bodies[i]);
        says("NONE: none such.");
        for (int i : new int[] {0, -1, 20, MIN, MAX}) due(x.trace(i), -1);
        x.player(LIBERO, 9);
        x.act(0, 2, 5);
        x.act(0, 0, 5);
        for (int i : new int[] {3, 4, 9, 10, 20, -1, MIN, MAX}) due(x.trace(i), -1);
        refusals();
    }

    private static void promises41And42() {
        promise(41);
        says("THE IMAGE of all but SHELVES (and THE IMAGE, REFUSALS, the FAULT, THE TRACE) is taken: how many PLAYERS.");
        due(x.image(), 0);
        seven();
        told("goal 4;rally 0;rally 1;block 7;serve 1 2;break 333");
        x.seed(99);
        long[] ahead = all();
        due(x.image(), 7);
        same(ahead);
        x.show(0, 0);
        fill(1, 2, 8);
        no(x.rally(2), -6);
        fault("blx", 2);
        x.act(5, 0, 1);
        told("player 1 1;goal 9;rally 1;turn;block 1;serve 2 3;break 4;on 0 2;on 3 7");
        fault("goxl", 2);
        x.rallies(3);
        due(x.restore(), 7);
        statuses(0, 7, 6, 1, 1, 0, 0, 0, 2, 7, 99, 3);
        statuses(18, 1, 2, 333, 4);
        floor(5, 0, 1, 2, 3, 4);
        due(x.holds(0), 0);
        due(x.element(1, 0), 8);
        due(x.fault(), 2);
        due(x.trace(0), 70);
        refusals();
        promise(42);
        says("All is as THE IMAGE has it;");
        x.image();
        seven();
        x.ask(4, 1);
        x.rally(1);
        due(x.restore(), 0);
        statuses(0, 0, 0, 0, 0, 1, 0, 0, 0, 30, 1);
        statuses(18, 5, 3, 400, 15);
        floor(-1, -1, -1, -1, -1, -1);
        due(x.player(LIFTER, 4), 0);
        due(x.restore(), 0);
        due(x.player(TALL, 0), 0);
        due(x.playerOf(0, 0), TALL);
        x.image();
        x.player(0, 0);
        due(x.restore(), 1);
        due(x.restore(), 1);
        says("SHELVES with PLAYERS hold those of these numbers, or NOTHING: how many PLAYERS.");
        x.player(LIFTER, 4);
        x.player(STRIKER, 4);
        x.image();
        x.player(SMALL, 0);
        x.show(0, 2);
        x.show(1, 2);
        x.show(7, 2);
        x.show(6, 0);
        x.show(5, 1);
        x.row(2, 3, 2);
        due(x.restore(), 2);
        due(x.holds(0), -1);
        due(x.holds(5), 1);
        due(x.holds(1), -1);
        due(x.holds(7), -1);
        due(x.holds(6), 0);
        due(x.holds(2), 103);
        no(x.says(7, 0), -3);
        due(x.player(TALL, 1), 2);
        due(x.holds(7), -1);
        due(x.says(6, LIFTER), 4);
        says("-6 there is none.");
        seven();
        no(x.restore(), -6);
        due(x.status(0), 7);
        floor(0, 1, 2, 3, 4, 5);
        due(x.image(), 7);
        due(x.restore(), 7);
    }

    private static void status(int what, int ahead, int behind, Runnable between) {
        due(x.status(what), ahead);
        between.run();
        due(x.status(what), behind);
    }

    private static void promise43() {
        promise(43);
        says("How many: 0 PLAYERS, 1 ON THE FLOOR,");
        status(0, 0, 7, Words::seven);
        due(x.status(1), 6);
        status(1, 6, 5, () -> x.put(3, -1));
        status(1, 5, 4, () -> x.put(0, 5));
        says("2, 3 POINTS of US, THEM, 4 who SERVES, 5, 6 SETS of US, THEM,");
        statuses(2, 0, 0, 1, 0, 0);
        told("goal 3;rally 1;rally 1;rally 1;rally 0;rally 0;rally 0;rally 0;rally 0;rally 0;rally 1;rally 0;rally 1");
        statuses(2, 2, 1, 0, 1, 2);
        says("7 RALLIES, 8 BLOCK, 9 SEED,");
        status(7, 0, 1, () -> x.rally(1));
        status(8, 30, 0, () -> x.ask(0, 0));
        status(9, 1, MIN, () -> x.seed(MIN));
        says("10 bodies that ran in the latest act() (all, kept or not);");
        x.player(LIBERO, 0);
        status(10, 0, 10, () -> x.act(0, 2, 0));
        status(10, 10, 3, () -> x.act(0, 0, 0));
        status(10, 3, 0, () -> x.act(1, 0, 0));
        says("11 to 17: REFUSALS -1 to -7;");
        for (int n = 1; n <= 7; n++) due(x.status(10 + n), 0);
        x.player(0, 0);
        x.show(1, 0);
        for (int i = 0; i < 2; i++) {
            no(x.row(8, 0, 1), -1);
            no(x.set(1, 0, 1), -2);
            no(x.set(0, 0, 1), -3);
            no(x.row(0, 0, -1), -4);
            no(x.strong(2), -5);
            no(x.row(0, 4, 1), -6);
            no(x.row(0, 0, 161), -7);
            no(x.at(6), -11);
            no(x.judge(1, 0), -12);
            no(x.judge(0, 0), -13);
            no(x.playerOf(1, 0), -15);
            no(x.turn(6), -16);
        }
        says("18 to 21: as ask() has them from 1 to 4.");
        statuses(18, 5, 3, 400, 15);
        for (int what = 1; what < 5; what++) x.ask(what, what);
        statuses(18, 1, 2, 3, 4);
        says("NONE for another what.");
        for (int what : new int[] {-1, 22, 23, MIN, MAX}) due(x.status(what), -1);
        refusals();
    }

    public static void main(String[] args) {
        promise1();
        promise2();
        promise3();
        promise4();
        promise5();
        promise6();
        promise7();
        promise8();
        promise9();
        promise10();
        promise11();
        promise12();
        promise13();
        promise14();
        promise15();
        promise16();
        promise17();
        promise18();
        promise19();
        promise20();
        promise21();
        promise22();
        promise23();
        promises24To27();
        promise28();
        promises29And30();
        promise31();
        promise32();
        promise33();
        promise34();
        promises35To38();
        promises39And40();
        promises41And42();
        promise43();
        end("the promises hold, word by word");
    }
}
