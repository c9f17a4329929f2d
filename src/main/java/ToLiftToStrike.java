public final class ToLiftToStrike {
    public static final int NONE = -1;

    private static final int SHELVES = 8;
    private static final int ELEMENTS = 160;
    private static final int SORTS = 4;
    private static final int PLAYERS = 12;
    private static final int PLACES = 6;
    private static final int FRONT = 3;
    private static final int KINDS = 7;
    private static final int KEPT_BODIES = 20;
    private static final int GREATEST_GOAL = 25;
    private static final int SURE = 1000000;

    private static final int PLAYER = 0;
    private static final int STRIKER = 1;
    private static final int LIFTER = 2;
    private static final int TALL = 3;
    private static final int SMALL = 4;
    private static final int QUICK = 5;
    private static final int LIBERO = 6;

    private static final int WE = 0;
    private static final int THEY = 1;
    private static final int BAD = 0;
    private static final int GOOD = 1;

    private static final int NOBODY = -1;
    private static final int OTHER = -2;
    private static final int NOTHING = -3;
    private static final int BELOW = -4;
    private static final int BEYOND = -5;
    private static final int WRONG = -6;
    private static final int ROOM = -7;
    private static final int REFUSALS = 7;

    /** holds() tells a ROW by this and its SORT; no PLAYER's number comes so high. */
    private static final int A_ROW = 100;

    private final Row[] rows;
    /** What each SHELF holds, just as holds() tells it. */
    private final int[] held;
    private final int[] refusals;
    private final Team now;
    private final Team image;
    /** A second TEAM on which texts, told rallies and changes are tried out. */
    private final Team draft;
    private final Chances chances;
    private final Text text;
    private final Row ran;
    private boolean imageTaken;
    private int latestFault;

    public ToLiftToStrike() {
        rows = new Row[SHELVES];
        held = new int[SHELVES];
        for (int s = 0; s < rows.length && s < held.length; s++) {
            rows[s] = new Row();
            held[s] = NONE;
        }
        refusals = new int[REFUSALS];
        now = new Team();
        image = new Team();
        draft = new Team();
        chances = new Chances();
        text = new Text(draft);
        ran = new Row();
        imageTaken = false;
        latestFault = NONE;
    }

    // ---- SHELVES and ROWS

    public int row(int s, int sort, int n) {
        if (!isShelf(s)) {
            return refused(NOBODY);
        }
        if (n < 0) {
            return refused(BELOW);
        }
        if (sort < 0 || sort >= SORTS) {
            return refused(WRONG);
        }
        if (n > ELEMENTS) {
            return refused(ROOM);
        }
        Row row = rowOf(s);
        if (row != null) {
            row.startAnew(sort, n);
        }
        write(held, s, A_ROW + sort);
        return 1;
    }

    public int set(int s, int i, long v) {
        int fault = rowFault(s);
        if (fault != 0) {
            return refused(fault);
        }
        Row row = rowOf(s);
        if (row == null || !row.has(i)) {
            return refused(BEYOND);
        }
        row.keep(i, v);
        return 1;
    }

    public int copy(int p, int q, int i, int j, int n) {
        int fault = copyFault(p, q);
        if (fault != 0) {
            return refused(fault);
        }
        if (n < 0) {
            return refused(BELOW);
        }
        Row from = rowOf(p);
        Row to = rowOf(q);
        if (from == null || to == null || !from.hasPart(i, n) || !to.hasPart(j, n)) {
            return refused(BEYOND);
        }
        to.takePart(from, i, j, n);
        return 1;
    }

    public long element(int s, int i) {
        Row row = holdsRow(s) ? rowOf(s) : null;
        return row == null ? 0L : row.whole(i);
    }

    public int show(int s, int player) {
        if (!isShelf(s) || !isPlayerOrNone(player)) {
            return refused(NOBODY);
        }
        write(held, s, player);
        return player == NONE ? 0 : 1;
    }

    public int holds(int s) {
        return isShelf(s) ? read(held, s) : NONE;
    }

    public int says(int s, int kind) {
        if (!isShelf(s) || !isKind(kind)) {
            return refused(NOBODY);
        }
        if (holdsRow(s)) {
            return refused(OTHER);
        }
        Player player = now.playerOfNumber(read(held, s));
        if (player == null) {
            return refused(NOTHING);
        }
        if (!isUnder(player, kind)) {
            return refused(OTHER);
        }
        return saidAs(player, kind);
    }

    // ---- PLAYERS and the floor

    public int player(int kind, int a) {
        if (!isKind(kind)) {
            return refused(NOBODY);
        }
        if (a < 0 || a > 9) {
            return refused(WRONG);
        }
        if (!now.hasRoom()) {
            return refused(ROOM);
        }
        int number = now.count;
        now.addPlayer(madePlayer(kind, number, a));
        return number;
    }

    public int playerOf(int player, int what) {
        Player who = now.playerOfNumber(player);
        if (who == null) {
            return refusedByTens(BEYOND);
        }
        switch (what) {
            case 0:
                return who.kindNumber();
            case 1:
                return who.a;
            case 2:
                return now.placeOf(player);
            case 3:
                return who.skill();
            case 4:
                return who.blow(BAD);
            case 5:
                return who.blow(GOOD);
            default:
                return refusedByTens(BEYOND);
        }
    }

    public int at(int place) {
        return isPlace(place) ? now.numberAt(place, 0) : refusedByTens(NOBODY);
    }

    public int put(int place, int player) {
        if (!isPlace(place) || !isPlayerOrNone(player)) {
            return refusedByTens(NOBODY);
        }
        return now.moveTo(place, player);
    }

    public int turn(int n) {
        if (n < 0 || n >= PLACES) {
            return refusedByTens(WRONG);
        }
        for (int i = 0; i < n; i++) {
            now.turnOnce();
        }
        return now.numberAt(0, 0);
    }

    public int ask(int what, int v) {
        if (!mayBeAsked(what, v)) {
            return refused(WRONG);
        }
        int was = now.asked(what);
        now.decide(what, v);
        return was;
    }

    public int score(int us, int them, int serves) {
        if (us < 0 || us >= now.goal || them < 0 || them >= now.goal || !isOneOrNought(serves)) {
            return refused(WRONG);
        }
        now.us = us;
        now.them = them;
        now.serves = serves;
        return 1;
    }

    public int team(int s) {
        int fault = rowFault(s);
        if (fault != 0) {
            return refused(fault);
        }
        draft.takeOver(now);
        int items = text.tell(rowOf(s));
        latestFault = text.fault;
        if (latestFault != NONE) {
            return refused(WRONG);
        }
        now.takeOver(draft);
        return items;
    }

    public int fault() {
        return latestFault;
    }

    // ---- A RALLY

    public int good(int place, int force) {
        int fault = serveFault(place, force);
        return fault != 0 ? refused(fault) : now.goodOf(place, force, 0);
    }

    public int open(int reception) {
        return isOneOrNought(reception) ? now.openTo(reception) : refused(WRONG);
    }

    public int value(int reception) {
        return isOneOrNought(reception) ? now.valueOf(reception, 0) : refused(WRONG);
    }

    public int often(int reception) {
        return isOneOrNought(reception) ? now.oftenSet(reception) : refused(WRONG);
    }

    public int blocked(int reception, int place) {
        if (!isPlace(place)) {
            return refused(NOBODY);
        }
        return isOneOrNought(reception) ? now.blockedOf(reception, place) : refused(WRONG);
    }

    public int side(int place, int force) {
        int fault = serveFault(place, force);
        return fault != 0 ? refused(fault) : now.sideOf(place, force, 0);
    }

    // ---- WHAT COMES OF IT

    public int worth() {
        return now.valueOf(GOOD, 0) - now.valueOf(BAD, 0);
    }

    public int hard() {
        int best = 0;
        int least = now.sideOf(0, 0, 0);
        for (int place = 0; place < PLACES; place++) {
            for (int force = 0; force <= 9; force++) {
                int side = now.sideOf(place, force, 0);
                if (side < least) {
                    least = side;
                    best = 10 * place + force;
                }
            }
        }
        return best;
    }

    public int bold(int place) {
        if (!isPlace(place)) {
            return refused(NOBODY);
        }
        int best = 0;
        for (int force = 1; force <= 9; force++) {
            if (now.sideOf(place, force, 0) > now.sideOf(place, best, 0)) {
                best = force;
            }
        }
        return best;
    }

    public int strong(int what) {
        if (!isOneOrNought(what)) {
            return refused(BEYOND);
        }
        int best = 0;
        for (int turns = 1; turns < PLACES; turns++) {
            int more = now.valueOf(GOOD, turns) - now.valueOf(GOOD, best);
            if (what == 0 ? more > 0 : more < 0) {
                best = turns;
            }
        }
        return best;
    }

    public int chance(int us, int them, int serves, int turns) {
        boolean scored = us >= 0 && us <= now.goal && them >= 0 && them <= now.goal;
        if (!scored || us == now.goal && them == now.goal) {
            return refused(WRONG);
        }
        if (!isOneOrNought(serves) || turns < 0 || turns >= PLACES) {
            return refused(WRONG);
        }
        chances.learnSides(now);
        chances.reckon(now, us, them);
        return chances.told(them, serves, turns);
    }

    public int begin(int serves) {
        if (!isOneOrNought(serves)) {
            return refused(WRONG);
        }
        chances.learnSides(now);
        chances.reckon(now, 0, 0);
        int best = 0;
        for (int turns = 1; turns < PLACES; turns++) {
            if (chances.told(0, serves, turns) > chances.told(0, serves, best)) {
                best = turns;
            }
        }
        return best;
    }

    public int change() {
        draft.takeOver(now);
        int greatest = chanceOfDraft();
        int best = NONE;
        for (int place = 0; place < PLACES; place++) {
            int was = draft.numberAt(place, 0);
            for (int player = 0; was != NONE && player < draft.count; player++) {
                // Those put in are taken out again, so the draft stays as the floor is now.
                if (draft.placeOf(player) == NONE) {
                    draft.moveTo(place, player);
                    int chance = chanceOfDraft();
                    draft.moveTo(place, was);
                    if (chance > greatest) {
                        greatest = chance;
                        best = 100 * place + player;
                    }
                }
            }
        }
        return best;
    }

    // ---- TOLD RALLIES and WHOM HE SET

    public int judge(int s, int n) {
        int fault = toldFault(s, n);
        return fault != 0 ? refusedByTens(fault) : firstWrong(rowOf(s), n);
    }

    public int behind(int s, int n, int what) {
        int fault = toldFault(s, n);
        if (fault == 0 && (what < 0 || what > 5)) {
            fault = BEYOND;
        }
        if (fault == 0 && firstWrong(rowOf(s), n) != NONE) {
            fault = WRONG;
        }
        return fault != 0 ? refused(fault) : toldBehind(rowOf(s), n, what);
    }

    public int run(int s, int n, int sort) {
        int fault = toldFault(s, n);
        if (fault == 0 && (!isOneOrNought(sort) || firstWrong(rowOf(s), n) != NONE)) {
            fault = WRONG;
        }
        return fault != 0 ? refused(fault) : longestRun(rowOf(s), n, sort);
    }

    public int whom(int s, int n, int what) {
        int fault = toldFault(s, n);
        if (fault == 0 && (what < 0 || what > 2)) {
            fault = BEYOND;
        }
        if (fault == 0 && !allPlayers(rowOf(s), n)) {
            fault = WRONG;
        }
        if (fault != 0) {
            return refusedByTens(fault);
        }
        if (what == 0) {
            return mostOftenSet(rowOf(s), n);
        }
        return what == 1 ? changesOfMind(rowOf(s), n) : setsByOften(rowOf(s), n);
    }

    // ---- IN TRUTH

    public int rally(int point) {
        if (!isOneOrNought(point)) {
            return refused(WRONG);
        }
        now.play(point);
        return now.us;
    }

    public int rallies(int n) {
        if (n < 1 || n > 200) {
            return refused(WRONG);
        }
        int won = 0;
        for (int i = 0; i < n; i++) {
            int point = now.drawnPoint();
            now.play(point);
            won += point;
        }
        return won;
    }

    public int anew() {
        int sets = now.setsOfUs + now.setsOfThem;
        now.us = 0;
        now.them = 0;
        now.setsOfUs = 0;
        now.setsOfThem = 0;
        now.serves = THEY;
        return sets;
    }

    public int seed(int v) {
        int was = now.seed;
        now.seed = v;
        return was;
    }

    public int act(int player, int act, int x) {
        ran.startAnew(0, 0);
        Player who = now.playerOfNumber(player);
        if (who == null) {
            return 0;
        }
        switch (act) {
            case 0:
                return who.lifts(x, ran);
            case 1:
                return who.strikes(x, ran);
            case 2:
                return who.blocks(x, ran);
            default:
                return 0;
        }
    }

    public int trace(int i) {
        return ran.has(i) && i < KEPT_BODIES ? ran.part(i) : NONE;
    }

    public int image() {
        image.takeOver(now);
        imageTaken = true;
        return image.count;
    }

    public int restore() {
        if (!imageTaken) {
            return refused(WRONG);
        }
        now.takeOver(image);
        for (int s = 0; s < SHELVES; s++) {
            if (!holdsRow(s) && !isPlayerOrNone(read(held, s))) {
                write(held, s, NONE);
            }
        }
        return now.count;
    }

    public int status(int what) {
        if (what > 10 && what <= 10 + REFUSALS) {
            return read(refusals, what - 11);
        }
        if (what >= 18 && what <= 21) {
            return now.asked(what - 17);
        }
        switch (what) {
            case 0:
                return now.count;
            case 1:
                return now.onTheFloor();
            case 2:
                return now.us;
            case 3:
                return now.them;
            case 4:
                return now.serves;
            case 5:
                return now.setsOfUs;
            case 6:
                return now.setsOfThem;
            case 7:
                return now.rallies;
            case 8:
                return now.block;
            case 9:
                return now.seed;
            case 10:
                return ran.size;
            default:
                return NONE;
        }
    }

    // ---- what may be, and what is refused

    private int refused(int number) {
        int i = -number - 1;
        write(refusals, i, read(refusals, i) + 1);
        return number;
    }

    /** Where small negative answers mean something else, the refusal is told ten lower. */
    private int refusedByTens(int number) {
        return refused(number) - 10;
    }

    private static boolean isShelf(int s) {
        return s >= 0 && s < SHELVES;
    }

    private static boolean isPlace(int place) {
        return place >= 0 && place < PLACES;
    }

    private static boolean isKind(int kind) {
        return kind >= 0 && kind < KINDS;
    }

    private static boolean isOneOrNought(int n) {
        return n == 0 || n == 1;
    }

    private boolean isPlayerOrNone(int player) {
        return player >= NONE && player < now.count;
    }

    private boolean holdsRow(int s) {
        return isShelf(s) && read(held, s) >= A_ROW;
    }

    private Row rowOf(int s) {
        return s >= 0 && s < rows.length ? rows[s] : null;
    }

    private int rowFault(int s) {
        if (!isShelf(s)) {
            return NOBODY;
        }
        if (holdsRow(s)) {
            return 0;
        }
        return read(held, s) == NONE ? NOTHING : OTHER;
    }

    private int copyFault(int p, int q) {
        int ofP = rowFault(p);
        int ofQ = rowFault(q);
        if (ofP == NOBODY || ofQ == NOBODY) {
            return NOBODY;
        }
        if (ofP == OTHER || ofQ == OTHER) {
            return OTHER;
        }
        if (ofP == NOTHING || ofQ == NOTHING) {
            return NOTHING;
        }
        return read(held, p) == read(held, q) ? 0 : OTHER;
    }

    private int toldFault(int s, int n) {
        int fault = rowFault(s);
        if (fault != 0) {
            return fault;
        }
        if (n < 0) {
            return BELOW;
        }
        Row row = rowOf(s);
        return row == null || n > row.size ? BEYOND : 0;
    }

    private static int serveFault(int place, int force) {
        if (!isPlace(place)) {
            return NOBODY;
        }
        return force < 0 || force > 9 ? WRONG : 0;
    }

    private static boolean mayBeAsked(int what, int v) {
        switch (what) {
            case 0:
                return v >= 0 && v <= 60;
            case 1:
                return isPlace(v);
            case 2:
                return v >= 0 && v <= 9;
            case 3:
                return v >= 0 && v <= 1000;
            case 4:
                return v >= 1 && v <= GREATEST_GOAL;
            default:
                return false;
        }
    }

    private static boolean isUnder(Player player, int kind) {
        switch (kind) {
            case PLAYER:
                return true;
            case STRIKER:
                return player instanceof Striker;
            case LIFTER:
                return player instanceof Lifter;
            case TALL:
                return player instanceof Tall;
            case SMALL:
                return player instanceof Small;
            case QUICK:
                return player instanceof Quick;
            case LIBERO:
                return player instanceof Libero;
            default:
                return false;
        }
    }

    private int saidAs(Player player, int kind) {
        switch (kind) {
            case PLAYER:
                return now.placeOf(player.number);
            case LIFTER:
                return player.a;
            case SMALL:
            case LIBERO:
                return player.skill();
            default:
                return player.blow(GOOD);
        }
    }

    private static Player madePlayer(int kind, int number, int a) {
        switch (kind) {
            case STRIKER:
                return new Striker(number, a);
            case LIFTER:
                return new Lifter(number, a);
            case TALL:
                return new Tall(number, a);
            case SMALL:
                return new Small(number, a);
            case QUICK:
                return new Quick(number, a);
            case LIBERO:
                return new Libero(number, a);
            default:
                return new Player(number, a);
        }
    }

    // ---- helpers of what comes of it

    private int chanceOfDraft() {
        chances.learnSides(draft);
        chances.reckon(draft, draft.us, draft.them);
        return chances.told(draft.them, draft.serves, 0);
    }

    private static int firstWrong(Row row, int n) {
        for (int i = 0; row != null && i < n && i < row.size; i++) {
            if (!isOneOrNought(row.part(i))) {
                return i;
            }
        }
        return NONE;
    }

    private int toldBehind(Row row, int n, int what) {
        draft.takeOver(now);
        draft.setsOfUs = 0;
        draft.setsOfThem = 0;
        int turns = 0;
        for (int i = 0; row != null && i < n && i < row.size; i++) {
            turns += draft.play(row.part(i));
        }
        switch (what) {
            case 0:
                return draft.us;
            case 1:
                return draft.them;
            case 2:
                return draft.serves;
            case 3:
                return turns;
            case 4:
                return draft.setsOfUs;
            default:
                return draft.setsOfThem;
        }
    }

    private static int longestRun(Row row, int n, int sort) {
        int longest = 0;
        int length = 0;
        for (int i = 0; row != null && i < n && i < row.size; i++) {
            length = row.part(i) == sort ? length + 1 : 0;
            longest = Math.max(longest, length);
        }
        return longest;
    }

    private boolean allPlayers(Row row, int n) {
        for (int i = 0; row != null && i < n && i < row.size; i++) {
            if (now.playerOfNumber(row.part(i)) == null) {
                return false;
            }
        }
        return true;
    }

    private int mostOftenSet(Row row, int n) {
        int best = NONE;
        int most = 0;
        for (int player = 0; player < now.count; player++) {
            int times = timesSet(row, n, player);
            if (times > most) {
                most = times;
                best = player;
            }
        }
        return best;
    }

    private static int timesSet(Row row, int n, int player) {
        int times = 0;
        for (int i = 0; row != null && i < n && i < row.size; i++) {
            if (row.part(i) == player) {
                times++;
            }
        }
        return times;
    }

    private static int changesOfMind(Row row, int n) {
        int changes = 0;
        for (int i = 1; row != null && i < n && i < row.size; i++) {
            if (row.part(i) != row.part(i - 1)) {
                changes++;
            }
        }
        return changes;
    }

    private int setsByOften(Row row, int n) {
        int places = now.oftenSet(GOOD);
        for (int i = 0; row != null && i < n && i < row.size; i++) {
            int place = now.placeOf(row.part(i));
            if (place == NONE || (places >> place & 1) == 0) {
                return 0;
            }
        }
        return 1;
    }

    // ---- numbers in arrays, looked at before they are used

    private static int read(int[] from, int i) {
        return i >= 0 && i < from.length ? from[i] : 0;
    }

    private static void write(int[] to, int i, int v) {
        if (i >= 0 && i < to.length) {
            to[i] = v;
        }
    }

    /** A ROW; made once for each SHELF and used again, as all rows of a run live in one room. */
    private static final class Row {
        private final long[] elements = new long[ELEMENTS];
        private int sort;
        private int size;

        void startAnew(int sortOfIt, int n) {
            sort = sortOfIt;
            size = Math.max(0, Math.min(n, elements.length));
            for (int i = 0; i < elements.length; i++) {
                elements[i] = 0L;
            }
        }

        boolean has(int i) {
            return i >= 0 && i < size && i < elements.length;
        }

        /** Takes size less n, for i and n together may wrap. */
        boolean hasPart(int i, int n) {
            return i >= 0 && n >= 0 && i <= size - n;
        }

        long whole(int i) {
            return has(i) ? elements[i] : 0L;
        }

        /** As an int, of longs the lowest 32 bits: so a ROW counts wherever it tells something. */
        int part(int i) {
            return has(i) ? (int) elements[i] : 0;
        }

        void keep(int i, long v) {
            if (has(i)) {
                elements[i] = narrowed(v);
            }
        }

        private long narrowed(long v) {
            switch (sort) {
                case 0:
                    return (byte) v;
                case 1:
                    return (short) v;
                case 2:
                    return (int) v;
                default:
                    return v;
            }
        }

        void takePart(Row from, int i, int j, int n) {
            if (from != null && from.hasPart(i, n) && hasPart(j, n)) {
                System.arraycopy(from.elements, i, elements, j, n);
            }
        }

        void add(int number) {
            if (size >= 0 && size < elements.length) {
                elements[size] = number;
                size++;
            }
        }
    }

    // ---- the KINDS: no SKILL comes to more than 100, so none is cut off

    private static class Player {
        final int number;
        final int a;

        Player(int number, int a) {
            this.number = number;
            this.a = a;
        }

        int kindNumber() {
            return PLAYER;
        }

        int skill() {
            return 40 + 2 * a;
        }

        int blow(int reception) {
            return 30 + a;
        }

        int lifts(int x, Row ran) {
            // Written out, not by add(): blocks of a LIBERO come here eight calls deep.
            if (ran.size >= 0 && ran.size < ran.elements.length) {
                ran.elements[ran.size] = 10;
                ran.size++;
            }
            return x + number;
        }

        int strikes(int x, Row ran) {
            ran.add(11);
            return lifts(x, ran) * 2;
        }

        int blocks(int x, Row ran) {
            ran.add(12);
            int struck = strikes(x, ran);
            return struck ^ lifts(x - a, ran);
        }
    }

    private static class Striker extends Player {
        Striker(int number, int a) {
            super(number, a);
        }

        int kindNumber() {
            return STRIKER;
        }

        int skill() {
            return 30 + a;
        }

        int blow(int reception) {
            return 45 + 2 * a;
        }

        int lifts(int x, Row ran) {
            ran.add(20);
            return super.lifts(x, ran) + a;
        }
    }

    private static final class Lifter extends Player {
        Lifter(int number, int a) {
            super(number, a);
        }

        int kindNumber() {
            return LIFTER;
        }

        int blow(int reception) {
            return 20 + a;
        }

        int strikes(int x, Row ran) {
            ran.add(30);
            return super.strikes(x, ran) * 3;
        }
    }

    private static final class Tall extends Striker {
        Tall(int number, int a) {
            super(number, a);
        }

        int kindNumber() {
            return TALL;
        }

        int skill() {
            return 25 + a;
        }

        int blow(int reception) {
            return super.blow(reception) + 10;
        }

        int strikes(int x, Row ran) {
            ran.add(40);
            return super.strikes(x + 1, ran);
        }
    }

    private static class Small extends Player {
        Small(int number, int a) {
            super(number, a);
        }

        int kindNumber() {
            return SMALL;
        }

        int skill() {
            return 50 + 3 * a;
        }

        int blow(int reception) {
            return 25 + a;
        }

        int lifts(int x, Row ran) {
            ran.add(51);
            return super.lifts(x, ran) - number;
        }

        int blocks(int x, Row ran) {
            ran.add(50);
            return -super.blocks(x, ran);
        }
    }

    private static final class Quick extends Striker {
        Quick(int number, int a) {
            super(number, a);
        }

        int kindNumber() {
            return QUICK;
        }

        int blow(int reception) {
            return super.blow(reception) + (reception == GOOD ? 5 : -10);
        }

        int blocks(int x, Row ran) {
            ran.add(60);
            return super.blocks(x, ran) ^ 5;
        }
    }

    private static final class Libero extends Small {
        Libero(int number, int a) {
            super(number, a);
        }

        int kindNumber() {
            return LIBERO;
        }

        int skill() {
            return 60 + 4 * a;
        }

        int blow(int reception) {
            return 0;
        }

        int lifts(int x, Row ran) {
            ran.add(70);
            return super.lifts(x, ran) * 2;
        }

        int strikes(int x, Row ran) {
            ran.add(71);
            return super.strikes(x - a, ran);
        }
    }

    /** All that THE IMAGE has: PLAYERS, the floor, what is asked, POINTS, SETS, SEED. */
    private static final class Team {
        private final Player[] players = new Player[PLAYERS];
        private final int[] floor = new int[PLACES];
        private int count = 0;
        private int block = 30;
        private int servedPlace = 5;
        private int servedForce = 3;
        private int breakPoint = 400;
        private int goal = 15;
        private int us = 0;
        private int them = 0;
        private int serves = THEY;
        private int setsOfUs = 0;
        private int setsOfThem = 0;
        private int rallies = 0;
        private int seed = 1;

        Team() {
            for (int place = 0; place < floor.length; place++) {
                floor[place] = NONE;
            }
        }

        /** PLAYERS never change, so both TEAMS may hold the same ones. */
        void takeOver(Team other) {
            for (int i = 0; i < players.length && i < other.players.length; i++) {
                players[i] = other.players[i];
            }
            for (int i = 0; i < floor.length && i < other.floor.length; i++) {
                floor[i] = other.floor[i];
            }
            count = other.count;
            block = other.block;
            servedPlace = other.servedPlace;
            servedForce = other.servedForce;
            breakPoint = other.breakPoint;
            goal = other.goal;
            us = other.us;
            them = other.them;
            serves = other.serves;
            setsOfUs = other.setsOfUs;
            setsOfThem = other.setsOfThem;
            rallies = other.rallies;
            seed = other.seed;
        }

        boolean hasRoom() {
            return count < players.length;
        }

        void addPlayer(Player player) {
            if (count >= 0 && count < players.length) {
                players[count] = player;
                count++;
            }
        }

        Player playerOfNumber(int number) {
            return number >= 0 && number < count && number < players.length ? players[number] : null;
        }

        /** Who is at a PLACE behind so many TURNS: he is so many PLACES before it now. */
        int numberAt(int place, int turns) {
            int from = (place - turns + PLACES) % PLACES;
            return from >= 0 && from < floor.length ? floor[from] : NONE;
        }

        Player playerAt(int place, int turns) {
            return playerOfNumber(numberAt(place, turns));
        }

        int placeOf(int number) {
            for (int place = 0; place < floor.length; place++) {
                if (floor[place] == number) {
                    return place;
                }
            }
            return NONE;
        }

        int onTheFloor() {
            int on = 0;
            for (int place = 0; place < floor.length; place++) {
                on += floor[place] == NONE ? 0 : 1;
            }
            return on;
        }

        int moveTo(int place, int number) {
            int was = numberAt(place, 0);
            if (number != NONE) {
                write(floor, placeOf(number), NONE);
            }
            write(floor, place, number);
            return was;
        }

        void turnOnce() {
            int last = read(floor, PLACES - 1);
            for (int place = PLACES - 1; place > 0; place--) {
                write(floor, place, read(floor, place - 1));
            }
            write(floor, 0, last);
        }

        int asked(int what) {
            switch (what) {
                case 0:
                    return block;
                case 1:
                    return servedPlace;
                case 2:
                    return servedForce;
                case 3:
                    return breakPoint;
                default:
                    return goal;
            }
        }

        void decide(int what, int v) {
            switch (what) {
                case 0:
                    block = v;
                    break;
                case 1:
                    servedPlace = v;
                    break;
                case 2:
                    servedForce = v;
                    break;
                case 3:
                    breakPoint = v;
                    break;
                default:
                    goal = v;
                    us = 0;
                    them = 0;
            }
        }

        int goodOf(int place, int force, int turns) {
            Player player = playerAt(place, turns);
            return player == null ? 0 : Math.max(0, player.skill() - 5 * force);
        }

        int openTo(int reception) {
            int bits = 0;
            for (int place = 0; place < FRONT; place++) {
                if (isOpen(place, reception) && numberAt(place, 0) != NONE) {
                    bits |= 1 << place;
                }
            }
            return bits;
        }

        private static boolean isOpen(int place, int reception) {
            return place == 0 || reception == GOOD && place > 0 && place < FRONT;
        }

        /** Ten times his BLOW; 0 for those who can't be set: that is above no v. */
        private int tenBlows(int place, int reception, int turns) {
            Player player = isOpen(place, reception) ? playerAt(place, turns) : null;
            return player == null ? 0 : 10 * player.blow(reception);
        }

        int valueOf(int reception, int turns) {
            int first = tenBlows(0, reception, turns);
            int second = tenBlows(1, reception, turns);
            int third = tenBlows(2, reception, turns);
            int least = 0;
            // All numbers below least are too low; ten times a BLOW is below 1024.
            for (int step = 512; step > 0; step /= 2) {
                int tried = least + step - 1;
                int over = above(first, tried) + above(second, tried) + above(third, tried);
                if (over > 10 * block) {
                    least += step;
                }
            }
            return least;
        }

        private static int above(int blow, int v) {
            return Math.max(0, blow - v);
        }

        int oftenSet(int reception) {
            int v = valueOf(reception, 0);
            int bits = 0;
            int best = NONE;
            int greatest = NONE;
            for (int place = 0; place < FRONT; place++) {
                int blow = tenBlows(place, reception, 0);
                boolean there = isOpen(place, reception) && numberAt(place, 0) != NONE;
                if (there && blow > v) {
                    bits |= 1 << place;
                }
                if (there && blow > greatest) {
                    greatest = blow;
                    best = place;
                }
            }
            return bits != 0 || best == NONE ? bits : 1 << best;
        }

        int blockedOf(int reception, int place) {
            int over = above(tenBlows(place, reception, 0), valueOf(reception, 0));
            return block > 0 ? 100 * over / block : 0;
        }

        int sideOf(int place, int force, int turns) {
            int good = goodOf(place, force, turns);
            int received = good * valueOf(GOOD, turns) + (100 - good) * valueOf(BAD, turns);
            return 30 * force + (100 - 3 * force) * received / 10000;
        }

        private int chanceOfPoint() {
            return serves == WE ? breakPoint : sideOf(servedPlace, servedForce, 0);
        }

        int drawnPoint() {
            seed = seed * 1103515245 + 12345;
            return (seed >>> 16) % 1000 < chanceOfPoint() ? 1 : 0;
        }

        /** Answers how many TURNS there were. */
        int play(int point) {
            boolean ours = point == 1;
            int turns = ours && serves == THEY ? 1 : 0;
            if (turns == 1) {
                turnOnce();
            }
            us += ours ? 1 : 0;
            them += ours ? 0 : 1;
            serves = ours ? WE : THEY;
            rallies++;
            if (us >= goal || them >= goal) {
                setsOfUs += ours ? 1 : 0;
                setsOfThem += ours ? 0 : 1;
                us = 0;
                them = 0;
                serves = ours ? THEY : WE;
            }
            return turns;
        }
    }

    /** CHANCES row by row of OUR POINTS: only the row last reckoned is kept. */
    private static final class Chances {
        private final int[] sides = new int[PLACES];
        private final int[] weServe = new int[(GREATEST_GOAL + 1) * PLACES];
        private final int[] theyServe = new int[(GREATEST_GOAL + 1) * PLACES];

        void learnSides(Team team) {
            for (int turns = 0; turns < sides.length; turns++) {
                sides[turns] = team.sideOf(team.servedPlace, team.servedForce, turns);
            }
        }

        void reckon(Team team, int us, int them) {
            int goal = team.goal;
            for (int i = 0; i < weServe.length && i < theyServe.length; i++) {
                weServe[i] = i < goal * PLACES ? SURE : 0;
                theyServe[i] = weServe[i];
            }
            for (int ours = goal - 1; ours >= us && ours >= 0; ours--) {
                for (int theirs = goal - 1; theirs >= them && theirs >= 0; theirs--) {
                    reckonScore(theirs * PLACES, team.breakPoint);
                }
            }
        }

        /** Cells from first on hold what is due with one POINT more of US, until they are written. */
        private void reckonScore(int first, int breakPoint) {
            int lost = first + PLACES;
            if (first < 0 || lost + PLACES > weServe.length || lost + PLACES > theyServe.length) {
                return;
            }
            for (int turns = 0; turns < PLACES && turns < sides.length; turns++) {
                int turned = turns == PLACES - 1 ? 0 : turns + 1;
                theyServe[first + turns] = mean(sides[turns], weServe[first + turned], theyServe[lost + turns]);
            }
            for (int turns = 0; turns < PLACES; turns++) {
                weServe[first + turns] = mean(breakPoint, weServe[first + turns], theyServe[lost + turns]);
            }
        }

        private static int mean(int p, int won, int lost) {
            return (p * won + (1000 - p) * lost) / 1000;
        }

        int told(int them, int serves, int turns) {
            return read(serves == WE ? weServe : theyServe, them * PLACES + turns);
        }
    }

    /** Reads a TEAM's text, telling each ITEM to the TEAM as soon as it stands. */
    private static final class Text {
        private static final int WORDS = 8;
        private static final int WORD_PLAYER = 0;
        private static final int WORD_ON = 1;
        private static final int WORD_TURN = 2;
        private static final int WORD_BLOCK = 3;
        private static final int WORD_SERVE = 4;
        private static final int WORD_BREAK = 5;
        private static final int WORD_GOAL = 6;
        private static final int WORD_RALLY = 7;

        private final Team team;
        private Row row = null;
        private int place = 0;
        private int fault = NONE;
        private int word = WORD_TURN;
        private int first = 0;
        private int second = 0;

        Text(Team team) {
            this.team = team;
        }

        /** Answers how many ITEMS were told to the TEAM: all, if there is no FAULT. */
        int tell(Row told) {
            row = told;
            place = 0;
            fault = NONE;
            int items = 0;
            boolean more = true;
            while (more && items <= ELEMENTS) {
                more = readItem();
                if (more) {
                    tellTeam();
                    items++;
                    more = goesOn();
                }
            }
            return items;
        }

        private int elementAt(int i) {
            return row != null && row.has(i) ? row.part(i) : NONE;
        }

        private boolean faultAt(int where) {
            fault = where;
            return false;
        }

        private boolean goesOn() {
            if (row == null || place >= row.size) {
                return false;
            }
            if (elementAt(place) != ';') {
                return faultAt(place);
            }
            place++;
            return true;
        }

        private boolean readItem() {
            int start = place;
            if (!readWord()) {
                return false;
            }
            if (word == WORD_PLAYER && !team.hasRoom()) {
                return faultAt(start);
            }
            if (word == WORD_TURN) {
                return true;
            }
            first = readNumber(word == WORD_GOAL ? 1 : 0, greatestFirst());
            if (first == NONE || !hasSecond()) {
                return first != NONE;
            }
            second = readNumber(0, word == WORD_ON ? team.count - 1 : 9);
            return second != NONE;
        }

        private static String lettersOf(int which) {
            switch (which) {
                case WORD_PLAYER:
                    return "player";
                case WORD_ON:
                    return "on";
                case WORD_TURN:
                    return "turn";
                case WORD_BLOCK:
                    return "block";
                case WORD_SERVE:
                    return "serve";
                case WORD_BREAK:
                    return "break";
                case WORD_GOAL:
                    return "goal";
                default:
                    return "rally";
            }
        }

        /** The letters stand as far as the word does that goes on longest. */
        private boolean readWord() {
            int longest = 0;
            for (int which = 0; which < WORDS; which++) {
                String letters = lettersOf(which);
                int standing = standingOf(letters);
                if (standing == letters.length()) {
                    word = which;
                    place += standing;
                    return true;
                }
                longest = Math.max(longest, standing);
            }
            return faultAt(place + longest);
        }

        private int standingOf(String letters) {
            int standing = 0;
            while (standing < letters.length() && elementAt(place + standing) == letters.charAt(standing)) {
                standing++;
            }
            return standing;
        }

        /** A blank and a NUMBER; NONE, and a FAULT, if they don't stand or it may not be. */
        private int readNumber(int least, int greatest) {
            if (elementAt(place) != ' ') {
                faultAt(place);
                return NONE;
            }
            int start = place + 1;
            int digits = 0;
            int number = 0;
            while (digits < 4 && isDigit(elementAt(start + digits))) {
                number = 10 * number + elementAt(start + digits) - '0';
                digits++;
            }
            if (digits == 0 || number < least || number > greatest) {
                faultAt(start);
                return NONE;
            }
            place = start + digits;
            return number;
        }

        private static boolean isDigit(int element) {
            return element >= '0' && element <= '9';
        }

        private boolean hasSecond() {
            return word == WORD_PLAYER || word == WORD_ON || word == WORD_SERVE;
        }

        private int greatestFirst() {
            switch (word) {
                case WORD_PLAYER:
                    return KINDS - 1;
                case WORD_BLOCK:
                    return 60;
                case WORD_BREAK:
                    return 1000;
                case WORD_GOAL:
                    return GREATEST_GOAL;
                case WORD_RALLY:
                    return 1;
                default:
                    return PLACES - 1;
            }
        }

        private void tellTeam() {
            switch (word) {
                case WORD_PLAYER:
                    team.addPlayer(madePlayer(first, team.count, second));
                    break;
                case WORD_ON:
                    team.moveTo(first, second);
                    break;
                case WORD_TURN:
                    team.turnOnce();
                    break;
                case WORD_BLOCK:
                    team.decide(0, first);
                    break;
                case WORD_SERVE:
                    team.decide(1, first);
                    team.decide(2, second);
                    break;
                case WORD_BREAK:
                    team.decide(3, first);
                    break;
                case WORD_GOAL:
                    team.decide(4, first);
                    break;
                default:
                    team.play(first);
            }
        }
    }
}
