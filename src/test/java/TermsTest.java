/** The document's words ahead of the promises, each sentence tried at its edges. */
public final class TermsTest extends Words {
    private static final int[] ABOVE = {-1, PLAYER, PLAYER, STRIKER, PLAYER, STRIKER, SMALL};
    private static final String[] WORDS = {"player", "on", "turn", "block", "serve", "break", "goal", "rally"};
    private static final String TWELVE = "player 0 0;player 0 0;player 0 0;player 0 0;player 0 0;player 0 0;"
        + "player 0 0;player 0 0;player 0 0;player 0 0;player 0 0;player 0 0";

    private static boolean under(int kind, int of) {
        return kind == of || kind > 0 && under(ABOVE[kind], of);
    }

    private static void calls() {
        section("An object is used ", "## The public face");
        says("for at most 512 calls after it has been made;");
        for (int i = 1; i < 512; i++) due(x.rally(1), i % 15);
        due(x.status(7), 511);
        anew();
        for (int i = 1; i < 512; i++) x.at(6);
        due(x.status(11), 511);
        says("what later calls answer is free.");
        for (int i = 0; i < 2000; i++) x.player(i % 9 - 1, i % 12 - 1);
        anew();
    }

    private static void players() {
        section("==== 1. THE TEAM", "==== 2. A RALLY");
        says("PLAYERS have numbers, from 0 on, 12 at most,");
        for (int i = 0; i < 12; i++) due(x.player(i % 7, i % 10), i);
        no(x.player(0, 0), -7);
        due(x.status(0), 12);
        due(x.playerOf(11, 0), 4);
        no(x.playerOf(12, 0), -15);
        says("each of a KIND: 0 PLAYER; 1 STRIKER, 2 LIFTER, 4 SMALL, each under PLAYER; 3 TALL, 5 QUICK, each under STRIKER; 6 LIBERO, under SMALL;");
        for (int kind = 0; kind < 7; kind++) {
            due(x.player(kind, 1), kind);
            due(x.playerOf(kind, 0), kind);
            due(x.show(kind, kind), 1);
        }
        for (int kind = 0; kind < 7; kind++) {
            for (int of = 0; of < 7; of++) {
                if (under(kind, of)) due(x.says(kind, of) == -2 ? 0 : 1, 1);
                else no(x.says(kind, of), -2);
            }
        }
        no(x.player(7, 1), -1);
        no(x.player(-1, 1), -1);
        says("a (0 to 9).");
        due(x.player(0, 0), 0);
        due(x.player(6, 9), 1);
        no(x.player(0, -1), -6);
        no(x.player(6, 10), -6);
        due(x.playerOf(0, 1), 0);
        due(x.playerOf(1, 1), 9);
        for (int far : FAR_OFF) no(x.player(0, far), -6);
        due(x.status(0), 2);
    }

    private static void places() {
        says("ON THE FLOOR: PLACES 0 to 5,");
        due(x.player(0, 0), 0);
        due(x.put(0, 0), -1);
        due(x.at(0), 0);
        due(x.put(5, 0), -1);
        due(x.at(5), 0);
        no(x.put(6, 0), -11);
        no(x.put(-1, 0), -11);
        no(x.at(6), -11);
        no(x.at(-1), -11);
        floor(-1, -1, -1, -1, -1, 0);
        says("0, 1, 2 in FRONT,");
        x.player(0, 0);
        for (int place = 0; place < 6; place++) {
            x.put(place, 0);
            due(x.open(1), place < 3 ? 1 << place : 0);
        }
        says("each with a PLAYER or nobody (nobody at first),");
        floor(-1, -1, -1, -1, -1, -1);
        x.player(0, 0);
        floor(-1, -1, -1, -1, -1, -1);
        x.put(2, 0);
        floor(-1, -1, 0, -1, -1, -1);
        x.put(2, -1);
        floor(-1, -1, -1, -1, -1, -1);
        says("none at two.");
        seven();
        due(x.put(5, 0), 5);
        floor(-1, 1, 2, 3, 4, 0);
        due(text("on 1 0"), 1);
        floor(-1, 0, 2, 3, 4, -1);
        due(x.status(1), 4);
        says("A TURN: who is at a PLACE comes to the next, from 5 to 0.");
        seven();
        due(x.turn(1), 5);
        floor(5, 0, 1, 2, 3, 4);
        anew();
        x.player(0, 0);
        x.put(0, 0);
        for (int place = 1; place < 13; place++) {
            x.turn(1);
            due(x.playerOf(0, 2), place % 6);
        }
    }

    private static void asks(int what, int most, int first, int status) {
        int least = what == 4 ? 1 : 0;
        due(x.status(status), first);
        due(x.ask(what, least), first);
        no(x.ask(what, least - 1), -6);
        due(x.status(status), least);
        due(x.ask(what, most), least);
        no(x.ask(what, most + 1), -6);
        for (int far : FAR_OFF) if (far != 200 || what != 3) no(x.ask(what, far), -6);
        due(x.status(status), most);
    }

    private static void asked() {
        says("BLOCK (0 to 60; 30 at first): what a block takes off a blow.");
        asks(0, 60, 30, 8);
        six(TALL, 9);
        due(x.value(1), 130);
        x.ask(0, 0);
        due(x.value(1), 730);
        x.ask(0, 1);
        due(x.value(1), 720);
        says("THEY: serve at a PLACE (0 to 5; 5 at first) with a FORCE (0 to 9; 3 at first);");
        asks(1, 5, 5, 18);
        asks(2, 9, 3, 19);
        says("BREAK (0 to 1000; 400 at first): the chance of a point (of 1000) for US, when WE serve.");
        x.ask(4, 1);
        due(x.chance(0, 0, 0, 0), 400000);
        asks(3, 1000, 400, 20);
        due(x.chance(0, 0, 0, 0), 1000000);
        x.ask(3, 0);
        due(x.chance(0, 0, 0, 0), 0);
        due(x.chance(0, 0, 1, 0), 90000);
        says("GOAL (1 to 25; 15 at first).");
        asks(4, 25, 15, 21);
        for (int i = 1; i < 25; i++) due(x.rally(1), i);
        due(x.rally(1), 0);
        due(x.ask(4, 1), 25);
        due(x.rally(1), 0);
        statuses(2, 0, 0, 1, 2, 0);
        says("POINTS of US, of THEM (0 at first),");
        statuses(2, 0, 0);
        x.rally(0);
        statuses(2, 0, 1);
        x.rally(1);
        statuses(2, 1, 1);
        says("who SERVES (0 WE, 1 THEY; 1 at first).");
        statuses(4, 1);
        x.rally(1);
        statuses(4, 0);
        x.rally(0);
        statuses(4, 1);
        says("SETS won by US, by THEM (0 at first).");
        statuses(5, 0, 0);
        told("goal 1;rally 1;rally 0;rally 0");
        statuses(5, 1, 2);
    }

    private static String turns(int n) {
        StringBuilder text = new StringBuilder();
        for (int i = 0; i < n; i++) text.append(";turn");
        return text.toString();
    }

    private static void texts() {
        says("A TEAM is read from a ROW of letters: ITEM, then any number of times ; and ITEM:");
        told("turn");
        told("turn;turn");
        told("block 7;turn;serve 1 2");
        fault("", 0);
        fault(";", 0);
        fault("turn;", 5);
        fault("turn;;turn", 5);
        fault("turn,turn", 4);
        anew();
        told("block 0001" + turns(30));
        due(x.status(8), 1);
        anew();
        fault("block 01" + turns(30) + ";t", 160);
        anew();
        fault("block 001" + turns(30) + ";", 160);
        says("player K A (KIND, a);");
        told("player 0 0;player 6 9");
        due(x.playerOf(0, 0) * 100 + x.playerOf(0, 1), 0);
        due(x.playerOf(1, 0) * 100 + x.playerOf(1, 1), 609);
        fault("player 7 0", 7);
        fault("player 0 10", 9);
        fault("player -1 0", 7);
        due(x.status(0), 2);
        says("on P X (a PLACE, a PLAYER; where he was nobody is then);");
        told("player 0 0;player 0 0;on 0 0;on 1 1;on 5 0");
        floor(-1, 1, -1, -1, -1, 0);
        told("on 1 0;on 1 0;on 0 1");
        floor(1, 0, -1, -1, -1, -1);
        fault("on 6 0", 3);
        fault("on 0 2", 5);
        anew();
        fault("on 0 0", 5);
        fault("on 0 -1", 5);
        says("turn (a TURN);");
        told("block 7;serve 1 2");
        told("player 0 0;on 5 0;turn");
        floor(0, -1, -1, -1, -1, -1);
        statuses(8, 7);
        statuses(18, 1, 2, 400, 15);
        says("block N;");
        told("serve 1 2;block 3");
        statuses(18, 1, 2, 400, 15);
        told("block 0");
        due(x.status(8), 0);
        told("block 60");
        fault("block 61", 6);
        due(x.status(8), 60);
        says("serve X F;");
        told("serve 0 9");
        statuses(18, 0, 9);
        statuses(8, 30);
        statuses(20, 400, 15);
        told("serve 5 0");
        fault("serve 6 0", 6);
        fault("serve 0 10", 8);
        statuses(18, 5, 0);
        says("break N;");
        told("break 0");
        due(x.status(20), 0);
        told("break 1000");
        fault("break 1001", 6);
        due(x.status(20), 1000);
        statuses(8, 30);
        statuses(18, 5, 3, 1000, 15);
        says("goal N (POINTS are 0 then);");
        due(x.score(3, 4, 0), 1);
        fault("goal 26", 5);
        fault("goal 0", 5);
        statuses(2, 3, 4, 0);
        told("goal 15");
        statuses(2, 0, 0, 0);
        told("goal 25");
        due(x.status(21), 25);
        told("goal 1");
        due(x.status(21), 1);
        says("rally N (in truth: 1 a point for US, 0 for THEM).");
        told("player 0 0;on 5 0;rally 1");
        statuses(2, 1, 0, 0, 0, 0, 1);
        floor(0, -1, -1, -1, -1, -1);
        told("rally 0");
        statuses(2, 1, 1, 1, 0, 0, 2);
        fault("rally 2", 6);
        statuses(2, 1, 1, 1, 0, 0, 2);
    }

    private static void numbers() {
        says("One blank between words and NUMBERS (1 to 4 digits).");
        told("serve 1 2");
        fault("block5", 5);
        fault("block  5", 6);
        fault("block 5 ", 7);
        fault(" block 5", 0);
        fault("serve 1  2", 8);
        fault("serve 1", 7);
        fault("serve 1;2", 7);
        fault("turn ;turn", 4);
        fault("turn; turn", 5);
        fault("serve 1 2 3", 9);
        anew();
        told("block 0");
        told("block 07");
        told("block 007");
        told("block 0007");
        due(x.status(8), 7);
        fault("block 00007", 10);
        fault("block ", 6);
        fault("block ;", 6);
        fault("block x", 6);
        fault("block /", 6);
        fault("block :", 6);
        fault("break 0001;break 00001", 21);
        fault("goal 0001;goal 00001", 15);
        says("All is told over what there is, or nothing");
        seven();
        long[] ahead = all();
        for (String item : new String[] {"player 0 0", "on 0 6", "turn", "block 1", "serve 1 1", "break 1", "goal 1", "rally 1"}) {
            text(item + ";x");
            ahead[ahead.length - 1] = item.length() + 1;
            x.show(7, -1);
            same(ahead);
            anew();
            seven();
        }
        told("on 0 6;block 8;player 4 4;on 1 7");
        floor(6, 7, 2, 3, 4, 5);
        statuses(0, 8, 6);
        says("(what there is no room for can't stand: its word).");
        text(TWELVE.substring(0, 120));
        due(x.fault(), -1);
        anew();
        for (int i = 0; i < 11; i++) x.player(0, 0);
        fault("player 0 0;player 0 0", 11);
        due(x.status(0), 11);
        told("player 0 0");
        fault("player 0 0", 0);
        fault("turn;player 7 0", 5);
        anew();
        for (int i = 0; i < 10; i++) x.player(0, 0);
        fault("player 0 0;player 0 0;player 0 0", 22);
        told("player 0 0;player 0 0;on 0 11");
    }

    private static void faults() {
        says("The FAULT: the first place at which an element can't stand as such texts go on");
        for (String word : WORDS) {
            for (int i = 0; i <= word.length(); i++) {
                due(text(word.substring(0, i) + "x"), -6);
                due(x.fault(), i);
            }
        }
        due(x.status(16), 44);
        anew();
        fault("blr", 2);
        fault("brl", 2);
        fault("Turn", 0);
        fault("turn;x;y", 5);
        fault("block 1;block 61;x", 14);
        fault("block 1x", 7);
        fault("block 1:", 7);
        fill(7, 1, 't' + 256, 'u', 'r', 'n');
        no(x.team(7), -6);
        due(x.fault(), 0);
        fill(7, 0, 't', 'u', -'r', 'n');
        no(x.team(7), -6);
        due(x.fault(), 2);
        says("(the number of elements, if it ends too early);");
        for (String word : WORDS) {
            int most = word.equals("turn") ? 3 : word.length();
            for (int i = 0; i <= most; i++) {
                due(text(word.substring(0, i)), -6);
                due(x.fault(), i);
            }
        }
        anew();
        fault("turn;", 5);
        fault("block ", 6);
        fault("serve 5", 7);
        fault("serve 5 ", 8);
        fault("player 0", 8);
        says("of a NUMBER that may not be the place of its first digit.");
        fault("block 61", 6);
        fault("block 0061", 6);
        fault("block 9999", 6);
        fault("block 99999", 6);
        fault("block 61x", 6);
        fault("block 61;x", 6);
        fault("serve 5 10", 8);
        fault("serve 6 10", 6);
        fault("turn;goal 00", 10);
        fault("break 9999", 6);
    }

    private static void skills(int kind, int least, int most) {
        anew();
        for (int a = 0; a < 10; a++) due(x.player(kind, a), a);
        for (int a = 0; a < 10; a++) due(x.playerOf(a, 3), least + a * (most - least) / 9);
    }

    private static void blows(int kind, int what, int least, int most) {
        anew();
        for (int a = 0; a < 10; a++) due(x.player(kind, a), a);
        for (int a = 0; a < 10; a++) due(x.playerOf(a, what), least + a * (most - least) / 9);
    }

    private static void skill() {
        section("==== 2. A RALLY", "==== 3. WHAT COMES OF IT");
        says("SKILL (of 100, 100 at most) of one who receives:");
        six(LIBERO, 9);
        due(x.playerOf(0, 3), 96);
        due(x.good(0, 0), 96);
        says("PLAYER: 40 and 2 times a;");
        skills(PLAYER, 40, 58);
        says("STRIKER (QUICK): 30 and a;");
        skills(STRIKER, 30, 39);
        skills(QUICK, 30, 39);
        says("TALL: 25 and a;");
        skills(TALL, 25, 34);
        says("LIFTER: as PLAYER;");
        skills(LIFTER, 40, 58);
        says("SMALL: 50 and 3 times a;");
        skills(SMALL, 50, 77);
        says("LIBERO: 60 and 4 times a.");
        skills(LIBERO, 60, 96);
        says("GOOD of a PLACE by FORCE: SKILL of who is there less 5 times FORCE (0 at least; nobody: 0).");
        six(TALL, 0, TALL, 1);
        due(x.good(0, 4), 5);
        due(x.good(0, 5), 0);
        due(x.good(0, 6), 0);
        due(x.good(0, 9), 0);
        due(x.good(1, 5), 1);
        due(x.good(1, 6), 0);
        due(x.good(0, 0), 25);
        due(x.good(2, 0), 0);
        due(x.good(2, 9), 0);
    }

    private static void blow() {
        says("BLOW (of 100) of one who is set, by a reception (1 good, 0 bad):");
        six(QUICK, 0);
        x.ask(0, 0);
        due(x.value(1), 500);
        due(x.value(0), 350);
        says("PLAYER: 30 and a;");
        blows(PLAYER, 4, 30, 39);
        blows(PLAYER, 5, 30, 39);
        says("STRIKER: 45 and 2 times a;");
        blows(STRIKER, 4, 45, 63);
        blows(STRIKER, 5, 45, 63);
        says("TALL: 10 more;");
        blows(TALL, 4, 55, 73);
        blows(TALL, 5, 55, 73);
        says("QUICK: 5 more than STRIKER if it is good, else 10 less;");
        blows(QUICK, 5, 50, 68);
        blows(QUICK, 4, 35, 53);
        says("LIFTER: 20 and a;");
        blows(LIFTER, 4, 20, 29);
        blows(LIFTER, 5, 20, 29);
        says("SMALL: 25 and a;");
        blows(SMALL, 4, 25, 34);
        blows(SMALL, 5, 25, 34);
        says("LIBERO: 0.");
        blows(LIBERO, 4, 0, 0);
        blows(LIBERO, 5, 0, 0);
    }

    private static void openAndValue() {
        says("OPEN: those who can be set: by a good one all in FRONT, by a bad one who is at PLACE 0 (nobody there: BLOW 0).");
        seven();
        due(x.open(1), 7);
        due(x.open(0), 1);
        x.put(0, -1);
        due(x.open(1), 6);
        due(x.open(0), 0);
        x.ask(0, 0);
        due(x.value(0), 0);
        due(x.value(1), 650);
        x.put(1, -1);
        x.put(2, -1);
        due(x.open(1), 0);
        due(x.value(1), 0);
        says("VALUE (of 1000) of a reception: of the BLOWS of all that are OPEN, 10 times each: the least number v (0 on)"
            + " by which what they are above v is 10 times BLOCK at most, together.");
        six(PLAYER, 0);
        due(x.value(1), 0);
        x.ask(0, 29);
        due(x.value(1), 10);
        x.ask(0, 31);
        due(x.value(1), 0);
        x.ask(0, 60);
        due(x.value(1), 0);
        x.ask(0, 0);
        due(x.value(1), 300);
        anew();
        six(PLAYER, 0, PLAYER, 0, PLAYER, 0, TALL, 9, TALL, 9, TALL, 9);
        due(x.value(1), 200);
        due(x.value(0), 0);
        x.ask(0, 1);
        due(x.value(1), 297);
        due(x.value(0), 290);
        x.ask(0, 0);
        due(x.value(1), 300);
        x.ask(0, 60);
        due(x.value(1), 100);
        x.turn(3);
        due(x.value(1), 530);
        due(x.value(0), 130);
        x.ask(0, 0);
        due(x.value(1), 730);
        anew();
        six(PLAYER, 0, STRIKER, 0);
        x.ask(0, 15);
        due(x.value(1), 300);
        x.ask(0, 16);
        due(x.value(1), 295);
        x.ask(0, 14);
        due(x.value(1), 310);
    }

    private static void oftenAndBlocked() {
        says("OFTEN: whom to set: all whose 10 times BLOW is above v, each alike often (bits; none: the one with the greatest BLOW, of several the first PLACE).");
        six(PLAYER, 0, STRIKER, 0);
        x.ask(0, 15);
        due(x.often(1), 2);
        x.ask(0, 16);
        due(x.often(1), 3);
        x.ask(0, 0);
        due(x.often(1), 2);
        due(x.often(0), 1);
        x.ask(0, 30);
        x.player(TALL, 9);
        x.put(3, 2);
        due(x.often(1), 3);
        x.put(3, -1);
        x.put(5, 2);
        due(x.often(1), 3);
        anew();
        six(PLAYER, 0, STRIKER, 0);
        x.ask(0, 0);
        x.player(STRIKER, 0);
        x.put(2, 2);
        due(x.often(1), 2);
        x.put(0, 2);
        due(x.often(1), 1);
        x.put(2, 1);
        due(x.often(1), 1);
        x.put(0, -1);
        due(x.often(0), 0);
        due(x.often(1), 4);
        x.put(2, -1);
        due(x.often(1), 0);
        anew();
        six(LIBERO, 0, LIBERO, 0, LIBERO, 0);
        due(x.often(1), 1);
        due(x.often(0), 1);
        x.put(0, -1);
        due(x.often(1), 2);
        x.put(1, -1);
        due(x.often(1), 4);
        says("(BLOCKED: each of those, of 1000: 100 times what it is above v, by BLOCK; cut; BLOCK 0: 0.)");
        six(PLAYER, 0, STRIKER, 0);
        x.ask(0, 15);
        due(x.blocked(1, 0), 0);
        due(x.blocked(1, 1), 1000);
        x.ask(0, 16);
        due(x.blocked(1, 0), 31);
        due(x.blocked(1, 1), 968);
        due(x.blocked(0, 0), 1000);
        due(x.blocked(0, 1), 0);
        x.ask(0, 60);
        due(x.blocked(0, 0), 500);
        x.ask(0, 1);
        due(x.blocked(1, 1), 1000);
        x.ask(0, 0);
        due(x.blocked(1, 1), 0);
        due(x.blocked(0, 0), 0);
    }

    private static void side() {
        says("SIDE of a PLACE and FORCE: of 1000, the chance of a point for US when THEY serve: 30 times FORCE (they miss),"
            + " and 100 less 3 times FORCE, times (GOOD times VALUE of a good one and 100 less GOOD times that of a bad one), by 10000 (cut).");
        due(x.side(0, 0), 0);
        due(x.side(5, 9), 270);
        six(PLAYER, 0);
        x.ask(0, 0);
        due(x.side(0, 0), 300);
        due(x.side(5, 0), 300);
        due(x.side(0, 9), 489);
        anew();
        six(PLAYER, 7, LIFTER, 0, LIFTER, 2);
        x.ask(0, 27);
        due(x.value(1), 174);
        due(x.value(0), 100);
        due(x.side(2, 1), 154);
        due(x.side(5, 1), 127);
        due(x.side(0, 0), 139);
        due(x.side(0, 9), 347);
    }

    private static void rallies() {
        says("Who wins a rally has 1 POINT more, and SERVES;");
        due(x.rally(1), 1);
        statuses(2, 1, 0, 0);
        due(x.rally(1), 2);
        statuses(2, 2, 0, 0);
        due(x.rally(0), 2);
        statuses(2, 2, 1, 1);
        due(x.rally(0), 2);
        statuses(2, 2, 2, 1);
        says("if WE win it and THEY served, first a TURN.");
        seven();
        x.rally(0);
        floor(0, 1, 2, 3, 4, 5);
        x.rally(1);
        floor(5, 0, 1, 2, 3, 4);
        x.rally(1);
        floor(5, 0, 1, 2, 3, 4);
        x.rally(0);
        floor(5, 0, 1, 2, 3, 4);
        x.ask(4, 1);
        x.rally(1);
        floor(4, 5, 0, 1, 2, 3);
        says("GOAL reached: the SET is won: POINTS are 0, THEY SERVE if WE won it, else WE.");
        x.ask(4, 2);
        x.score(1, 1, 0);
        due(x.rally(1), 0);
        statuses(2, 0, 0, 1, 1, 0, 1);
        x.score(1, 1, 1);
        due(x.rally(1), 0);
        statuses(2, 0, 0, 1, 2, 0, 2);
        x.score(1, 1, 1);
        due(x.rally(0), 0);
        statuses(2, 0, 0, 0, 2, 1, 3);
        x.score(1, 1, 0);
        due(x.rally(0), 0);
        statuses(2, 0, 0, 0, 2, 2, 4);
        due(x.rally(0), 0);
        statuses(2, 0, 1, 1, 2, 2, 5);
    }

    private static void unchanged() {
        section("==== 3. WHAT COMES OF IT", "REFUSALS (");
        says("(nothing is changed)");
        seven();
        x.score(3, 4, 1);
        fill(0, 0, 1, 0, 1);
        fill(1, 0, 1, 1, 2);
        x.act(5, 2, 7);
        long[] ahead = all();
        x.worth();
        x.hard();
        x.bold(5);
        x.strong(0);
        x.chance(0, 0, 1, 1);
        x.begin(1);
        x.change();
        x.judge(0, 3);
        x.behind(0, 3, 0);
        x.run(0, 3, 1);
        x.whom(1, 3, 0);
        x.whom(1, 3, 2);
        same(ahead);
        x.good(0, 1);
        x.open(1);
        x.value(1);
        x.often(1);
        x.blocked(1, 1);
        x.side(1, 1);
        same(ahead);
        refusals();
    }

    private static void serves() {
        says("WORTH of a good reception: VALUE of a good one less that of a bad one.");
        due(x.worth(), 0);
        six(STRIKER, 0);
        due(x.worth(), 0);
        x.put(1, 0);
        due(x.worth(), 150);
        says("HARD: the PLACE and FORCE (10 times the PLACE and the FORCE) with the least SIDE, of several the first.");
        due(x.hard(), 0);
        six(STRIKER, 0);
        due(x.side(0, 0), 150);
        due(x.hard(), 0);
        anew();
        six(LIBERO, 9, TALL, 9, LIBERO, 9, LIBERO, 9, LIBERO, 9, LIBERO, 9);
        x.ask(0, 0);
        due(x.hard(), 16);
        x.turn(4);
        x.put(1, 1);
        due(x.side(5, 0), 0);
        due(x.hard(), 50);
        anew();
        six(QUICK, 0, TALL, 9, TALL, 9, LIBERO, 9, LIBERO, 9, LIBERO, 9);
        x.ask(0, 35);
        due(x.side(0, 0), 166);
        due(x.side(0, 1), 164);
        due(x.side(0, 2), 164);
        due(x.hard(), 1);
        says("BOLD: the FORCE (0 to 9) of THEIR serve at which SIDE, at a PLACE, would be most, of several the least.");
        due(x.bold(0), 9);
        six(LIBERO, 0, TALL, 0);
        x.ask(0, 0);
        due(x.side(0, 0) * 1000 + x.side(0, 9), 330330);
        due(x.bold(0), 0);
        due(x.bold(5), 9);
        anew();
        six(LIBERO, 0, STRIKER, 9, LIBERO, 0, LIBERO, 9, LIBERO, 0, TALL, 9);
        x.ask(0, 0);
        due(x.bold(3), 0);
        says("STRONG: the TURN (0 to 5) with the greatest VALUE of a good reception, WEAK: with the least; of several the first.");
        due(x.strong(0), 0);
        due(x.strong(1), 0);
        six(TALL, 9);
        due(x.strong(0), 0);
        due(x.strong(1), 3);
        x.turn(1);
        due(x.strong(0), 0);
        due(x.strong(1), 2);
        x.turn(2);
        due(x.strong(0), 3);
        due(x.strong(1), 0);
        anew();
        six(TALL, 9, TALL, 9, TALL, 9, TALL, 9, TALL, 9);
        x.put(0, -1);
        x.put(3, 0);
        x.put(5, -1);
        x.ask(0, 0);
        due(x.strong(0), 0);
        due(x.strong(1), 0);
        x.ask(0, 30);
        due(x.strong(0), 4);
        due(x.strong(1), 1);
        anew();
        six(TALL, 1, STRIKER, 4, QUICK, 7, SMALL, 6, STRIKER, 8, STRIKER, 5);
        x.ask(0, 26);
        due(x.value(1), 494);
        due(x.strong(0), 4);
        x.turn(4);
        due(x.value(1), 495);
        anew();
        six(LIFTER, 3, QUICK, 9, PLAYER, 4, LIFTER, 8, SMALL, 1, PLAYER, 9);
        x.ask(0, 18);
        due(x.strong(1), 4);
    }

    private static void chances() {
        says("CHANCE (of 1,000,000) that WE win the SET from told POINTS, who serves, behind so many TURNS: 1,000,000 or 0, if GOAL is reached;");
        for (int them = 0; them < 15; them++) due(x.chance(15, them, them % 2, them % 6), 1000000);
        for (int us = 0; us < 15; us++) due(x.chance(us, 15, us % 2, us % 6), 0);
        x.ask(4, 25);
        due(x.chance(25, 24, 1, 5), 1000000);
        due(x.chance(24, 25, 0, 5), 0);
        says("else p times CHANCE behind a won rally, and 1000 less p times that behind a lost one, by 1000 (cut);");
        x.ask(4, 7);
        x.ask(3, 333);
        int[] falling = {333000, 110889, 36926, 12296, 4094, 1363, 453};
        for (int i = 0; i < 7; i++) due(x.chance(6 - i, 6, 0, 0), falling[i]);
        due(x.chance(6, 6, 1, 0), 90000);
        due(x.chance(6, 5, 0, 0), 333000 + 667 * 90);
        due(x.chance(6, 5, 1, 0), 90000 + 910 * 90);
        says("p BREAK or SIDE (by what THEY serve).");
        x.ask(4, 1);
        six(PLAYER, 0);
        due(x.chance(0, 0, 0, 0), 400000);
        due(x.chance(0, 0, 1, 0), 90000);
        x.ask(0, 0);
        due(x.chance(0, 0, 1, 0), 363000);
        due(x.chance(0, 0, 1, 1), 90000);
        due(x.chance(0, 0, 1, 5), 90000);
        due(x.chance(0, 0, 0, 1), 400000);
        x.ask(2, 0);
        due(x.chance(0, 0, 1, 0), 300000);
        x.ask(1, 0);
        due(x.chance(0, 0, 1, 2), 0);
        x.put(1, 0);
        due(x.chance(0, 0, 1, 0), 0);
        x.ask(1, 1);
        due(x.chance(0, 0, 1, 0), 120000);
        due(x.chance(0, 0, 1, 5), 300000);
        x.ask(4, 2);
        due(x.chance(0, 1, 1, 0), 120 * 400);
        x.ask(3, 0);
        due(x.chance(1, 0, 1, 0), 120000 + 880 * 120);
        due(x.chance(1, 0, 0, 3), 0);
        due(x.chance(0, 0, 1, 5), 36000);
    }

    private static void beginAndChange() {
        says("BEGIN: the TURNS (0 to 5) with the greatest CHANCE from 0 to 0, of several the fewest;");
        x.ask(4, 1);
        due(x.begin(1), 0);
        x.player(STRIKER, 0);
        for (int place = 0; place < 6; place++) {
            x.put(place, 0);
            due(x.begin(1), (6 - place) % 6);
        }
        x.player(STRIKER, 0);
        x.put(2, 1);
        due(x.begin(1), 1);
        x.ask(4, 2);
        x.ask(3, 1000);
        x.score(1, 1, 0);
        due(x.begin(1), 1);
        says("for told who serves first.");
        six(STRIKER, 0);
        x.ask(4, 1);
        x.turn(5);
        due(x.begin(1), 1);
        due(x.begin(0), 0);
        says("CHANGE: of all PLACES with somebody, and all PLAYERS not ON, the change by which CHANCE from now is greatest,");
        due(x.change(), -1);
        x.ask(4, 1);
        x.ask(0, 0);
        six(PLAYER, 0, PLAYER, 0);
        due(x.change(), -1);
        x.player(STRIKER, 0);
        x.player(TALL, 0);
        x.player(PLAYER, 1);
        due(x.change(), 3);
        x.put(0, 3);
        x.put(1, 0);
        due(x.change(), -1);
        x.put(1, -1);
        x.put(5, 0);
        due(x.change(), -1);
        x.score(0, 0, 0);
        x.put(0, 1);
        due(x.change(), -1);
        floor(1, -1, -1, -1, -1, 0);
        anew();
        x.ask(4, 1);
        x.ask(0, 0);
        x.player(TALL, 0);
        x.player(PLAYER, 0);
        x.put(0, 1);
        due(x.change(), 0);
        says("of several the first (PLACE, then PLAYER): 100 times the PLACE and the PLAYER;");
        x.ask(4, 1);
        x.ask(0, 0);
        x.ask(1, 3);
        six(LIBERO, 0, LIBERO, 0, LIBERO, 0, SMALL, 9);
        x.player(STRIKER, 0);
        x.player(STRIKER, 0);
        x.put(0, -1);
        due(x.change(), 104);
        x.put(4, 4);
        due(x.change(), 105);
        says("NONE: by none is it greater.");
        x.ask(4, 1);
        six(PLAYER, 0);
        x.player(PLAYER, 0);
        x.player(LIFTER, 9);
        due(x.change(), -1);
        x.ask(0, 0);
        due(x.change(), -1);
        x.player(PLAYER, 1);
        due(x.change(), 3);
        x.score(0, 0, 0);
        due(x.change(), -1);
    }

    private static void toldRallies() {
        says("TOLD RALLIES: a ROW of 1 and 0: WRONG: the first that is neither; NONE.");
        fill(0, 2, 1, 0, 2, -1);
        due(x.judge(0, 0), -1);
        due(x.judge(0, 2), -1);
        due(x.judge(0, 3), 2);
        due(x.judge(0, 4), 2);
        fill(0, 2, -1, 1, 0);
        due(x.judge(0, 3), 0);
        fill(0, 0, 256, 257, 1);
        due(x.judge(0, 3), -1);
        fill(0, 1, 256, 257, 1);
        due(x.judge(0, 3), 0);
        says("Behind them: POINTS, who serves, TURNS gone, SETS.");
        fill(0, 0, 1, 0, 1, 0, 0, 0, 1, 1, 1);
        x.ask(4, 3);
        int[][] want = {{0, 0, 1, 0, 0, 0}, {1, 0, 0, 1, 0, 0}, {1, 1, 1, 1, 0, 0}, {2, 1, 0, 2, 0, 0}, {2, 2, 1, 2, 0, 0},
            {0, 0, 0, 2, 0, 1}, {0, 1, 1, 2, 0, 1}, {1, 1, 0, 3, 0, 1}, {2, 1, 0, 3, 0, 1}, {0, 0, 1, 3, 1, 1}};
        for (int n = 0; n < 10; n++) for (int what = 0; what < 6; what++) due(x.behind(0, n, what), want[n][what]);
        says("RUN: the most of one sort one after the other.");
        fill(0, 0, 1, 1, 0, 1, 1, 1, 0, 0, 0, 0, 1);
        int[][] runs = {{0, 0}, {0, 1}, {0, 2}, {1, 2}, {1, 2}, {1, 2}, {1, 3}, {1, 3}, {2, 3}, {3, 3}, {4, 3}, {4, 3}};
        for (int n = 0; n < 12; n++) for (int sort = 0; sort < 2; sort++) due(x.run(0, n, sort), runs[n][sort]);
        x.row(0, 0, 160);
        due(x.run(0, 160, 0), 160);
        due(x.run(0, 160, 1), 0);
    }

    private static void whomHeSet() {
        says("WHOM HE SET: a ROW of PLAYERS, one for each of his sets: most often (of several the least; NONE: none);");
        seven();
        fill(0, 0, 6, 5, 5, 6, 0);
        due(x.whom(0, 0, 0), -1);
        due(x.whom(0, 1, 0), 6);
        due(x.whom(0, 2, 0), 5);
        due(x.whom(0, 3, 0), 5);
        due(x.whom(0, 4, 0), 5);
        due(x.whom(0, 5, 0), 5);
        fill(0, 0, 6, 6, 0);
        due(x.whom(0, 3, 0), 6);
        says("how often at most he set another than the time before;");
        seven();
        fill(0, 0, 6, 5, 5, 6, 0, 0);
        int[] others = {0, 0, 1, 1, 2, 3, 3};
        for (int n = 0; n <= 6; n++) due(x.whom(0, n, 1), others[n]);
        says("whether he sets by OFTEN now: all of the ROW are among them (1, 0).");
        fill(0, 0, 0, 1, 2, 3);
        fill(1, 0, 6);
        seven();
        for (int n = 0; n <= 4; n++) due(x.whom(0, n, 2), n < 4 ? 1 : 0);
        due(x.whom(1, 0, 2), 1);
        due(x.whom(1, 1, 2), 0);
        x.ask(0, 0);
        due(x.whom(0, 1, 2), 0);
        due(x.whom(0, 0, 2), 1);
        fill(0, 0, 1, 1, 0);
        due(x.whom(0, 2, 2), 1);
        due(x.whom(0, 3, 2), 0);
        fill(0, 0, 0, 1, 1);
        due(x.whom(0, 3, 2), 0);
        for (int place = 0; place < 3; place++) x.put(place, -1);
        due(x.whom(0, 1, 2), 0);
    }

    private static void draw(int p, int seed, int want) {
        anew();
        x.ask(3, p);
        x.score(0, 0, 0);
        x.seed(seed);
        due(x.rallies(1), want);
    }

    private static void draws() {
        says("IN TRUTH: rallies; by DRAWS n: a DRAW below 1000: below p a point for US.");
        draw(839, 1, 1);
        draw(838, 1, 0);
        draw(1, 0, 1);
        draw(0, 0, 0);
        draw(1000, 1, 1);
        anew();
        six(PLAYER, 0);
        due(x.rallies(1), 0);
        due(x.status(9), 1103527590);
        x.seed(0);
        due(x.rallies(1), 1);
        anew();
        six(TALL, 9);
        x.ask(0, 0);
        x.seed(-1);
        due(x.rallies(1), 1);
        anew();
        six(LIBERO, 0, TALL, 9);
        x.ask(0, 0);
        x.seed(-1);
        due(x.rallies(1), 0);
        says("A DRAW below n: SEED (1 at first) becomes SEED times 1103515245, and 12345 (an int, wrapping);");
        due(x.status(9), 1);
        x.rallies(1);
        due(x.status(9), 1103527590);
        x.rallies(1);
        due(x.status(9), 1103527590 * 1103515245 + 12345);
        x.seed(MIN);
        x.rallies(1);
        due(x.status(9), MIN + 12345);
        x.seed(MAX);
        x.rallies(1);
        due(x.status(9), (int) ((long) MAX * 1103515245L + 12345L));
        says("its upper 16 bits, no sign, modulo n.");
        draw(697, -1, 0);
        draw(698, -1, 1);
        draw(929, MAX, 0);
        draw(930, MAX, 1);
        says("RALLIES are counted.");
        x.rallies(200);
        due(x.status(7), 200);
        x.rallies(1);
        x.rally(1);
        due(x.status(7), 202);
        x.anew();
        x.ask(4, 1);
        x.rallies(10);
        due(x.status(7), 212);
        due(x.status(5) + x.status(6), 10);
    }

    private static void shelves() {
        says("SHELVES 0 to 7 hold NOTHING (at first), a ROW, or a PLAYER.");
        for (int s = 0; s < 8; s++) due(x.holds(s), -1);
        x.player(0, 0);
        for (int s = 0; s < 8; s++) {
            due(x.row(s, 1, 1), 1);
            due(x.holds(s), 101);
            due(x.show(s, 0), 1);
            due(x.holds(s), 0);
            due(x.show(s, -1), 0);
            due(x.holds(s), -1);
        }
        no(x.row(8, 0, 1), -1);
        no(x.row(-1, 0, 1), -1);
        no(x.show(8, 0), -1);
        no(x.show(-1, 0), -1);
        says("A ROW has a SORT (0 bytes, 1 shorts, 2 ints, 3 longs) and 0 to 160 elements, 0 at first;");
        for (int sort = 0; sort < 4; sort++) due(x.row(sort, sort, 160 * (sort % 2)), 1);
        for (int sort = 0; sort < 4; sort++) due(x.holds(sort), 100 + sort);
        no(x.row(0, 4, 1), -6);
        no(x.row(0, -1, 1), -6);
        no(x.row(1, 0, 161), -7);
        no(x.row(1, 0, -1), -4);
        no(x.set(0, 0, 1), -5);
        no(x.set(1, 160, 1), -5);
        due(x.holds(1), 101);
        due(x.set(1, 159, 9), 1);
        due(x.row(1, 0, 160), 1);
        for (int i = 0; i < 160; i++) due(x.element(1, i), 0);
        says("what is put in keeps its lowest bits.");
        fill(0, 0, 127, 128, 255, 256, -129, Long.MIN_VALUE);
        long[] bytes = {127, -128, -1, 0, 127, 0};
        for (int i = 0; i < 6; i++) due(x.element(0, i), bytes[i]);
        fill(1, 1, 32767, 32768, 65535, 65536, -32769);
        long[] shorts = {32767, -32768, -1, 0, 32767};
        for (int i = 0; i < 5; i++) due(x.element(1, i), shorts[i]);
        fill(2, 2, MAX, MAX + 1L, -1L >>> 32, 1L << 32, MIN - 1L);
        long[] ints = {MAX, MIN, -1, 0, MAX};
        for (int i = 0; i < 5; i++) due(x.element(2, i), ints[i]);
        fill(3, 3, Long.MAX_VALUE, Long.MIN_VALUE, -1);
        long[] longs = {Long.MAX_VALUE, Long.MIN_VALUE, -1};
        for (int i = 0; i < 3; i++) due(x.element(3, i), longs[i]);
        says("(As ints: of longs the lowest 32 bits.)");
        fill(0, 3, 1L << 32, (1L << 32) + 1, Long.MIN_VALUE + 1, 2);
        due(x.judge(0, 4), 3);
        due(x.run(0, 3, 1), 2);
        due(x.behind(0, 3, 0), 2);
    }

    private static void act(int player, int act, int v, int want, int... bodies) {
        due(x.act(player, act, v), want);
        due(x.status(10), bodies.length);
        for (int i = 0; i < bodies.length; i++) due(x.trace(i), bodies[i]);
        due(x.trace(bodies.length), -1);
    }

    /** One of each KIND, a one more than the number, which is the KIND's. */
    private static void kinds() {
        for (int kind = 0; kind < 7; kind++) due(x.player(kind, kind + 1), kind);
    }

    private static void acts() {
        says("ACTS of PLAYERS, with x (wrapping): 0 lifts, 1 strikes, 2 blocks; m the number, k its a.");
        kinds();
        act(2, 0, MAX, MIN + 1, 10);
        act(0, 1, 1 << 30, MIN, 11, 10);
        act(0, 1, MIN, 0, 11, 10);
        act(0, 2, MIN, MAX, 12, 11, 10, 10);
        act(3, 1, MAX, (MIN + 3 + 4) * 2, 40, 11, 20, 10);
        act(6, 1, MIN, (MIN - 7) * 4, 71, 11, 70, 51, 10);
        act(2, 1, MAX, (MAX + 2) * 6, 30, 11, 10);
        says("BODIES, each with its number: PLAYER: 10 lifts: x + m.");
        x.player(0, 9);
        x.player(0, 9);
        act(0, 0, 5, 5, 10);
        act(1, 0, 5, 6, 10);
        says("11 strikes: lifts(x) * 2.");
        x.player(0, 9);
        x.player(0, 9);
        act(1, 1, 5, 12, 11, 10);
        says("12 blocks: strikes(x) ^ lifts(x - k).");
        x.player(0, 0);
        x.player(0, 9);
        act(0, 2, 5, 10 ^ 5, 12, 11, 10, 10);
        act(1, 2, 5, 12 ^ -3, 12, 11, 10, 10);
        says("STRIKER: 20 lifts: super.lifts(x) + k.");
        kinds();
        act(1, 0, 5, 8, 20, 10);
        act(1, 1, 5, 16, 11, 20, 10);
        act(1, 2, 5, 16 ^ 6, 12, 11, 20, 10, 20, 10);
        says("LIFTER: 30 strikes: super.strikes(x) * 3.");
        kinds();
        act(2, 1, 5, 42, 30, 11, 10);
        act(2, 2, 5, 42 ^ 4, 12, 30, 11, 10, 10);
        says("TALL: 40 strikes: super.strikes(x + 1).");
        kinds();
        act(3, 1, 5, 26, 40, 11, 20, 10);
        act(3, 2, 5, 26 ^ 8, 12, 40, 11, 20, 10, 20, 10);
        says("SMALL: 50 blocks: -super.blocks(x).");
        kinds();
        act(4, 2, 5, -(10 ^ 0), 50, 12, 11, 51, 10, 51, 10);
        says("51 lifts: super.lifts(x) - m.");
        kinds();
        act(4, 0, 5, 5, 51, 10);
        act(4, 1, 5, 10, 11, 51, 10);
        says("QUICK: 60 blocks: super.blocks(x) ^ 5.");
        kinds();
        act(5, 2, 5, 32 ^ 10 ^ 5, 60, 12, 11, 20, 10, 20, 10);
        act(5, 2, 0, 22, 60, 12, 11, 20, 10, 20, 10);
        says("LIBERO: 70 lifts: super.lifts(x) * 2.");
        kinds();
        act(6, 0, 5, 10, 70, 51, 10);
        says("71 strikes: super.strikes(x - k).");
        kinds();
        act(6, 1, 5, -8, 71, 11, 70, 51, 10);
        act(6, 2, 5, -(-8 ^ -4), 50, 12, 71, 11, 70, 51, 10, 70, 51, 10);
        says("lifts(..) and so on: the body of the PLAYER's KIND, or of the next KIND above that has one;");
        kinds();
        act(2, 0, 5, 7, 10);
        act(3, 0, 5, 12, 20, 10);
        act(5, 0, 5, 16, 20, 10);
        act(5, 1, 5, 32, 11, 20, 10);
        says("super: from the KIND above the body's on.");
        kinds();
        act(3, 1, 0, 16, 40, 11, 20, 10);
        act(6, 1, 7, 0, 71, 11, 70, 51, 10);
        says("THE TRACE: the numbers of the bodies that ran in the latest act(), in the order in which they began;");
        due(x.trace(0), -1);
        kinds();
        x.act(6, 2, 0);
        act(0, 0, 0, 0, 10);
        act(0, 3, 0, 0);
        says("the first 20 are kept.");
        kinds();
        x.act(6, 2, 0);
        due(x.status(10), 10);
        due(x.trace(9), 10);
        for (int i : new int[] {10, 11, 19, 20, 21, 159, 160, MAX, -1, MIN}) due(x.trace(i), -1);
    }

    private static void refusalNumbers() {
        section("REFUSALS (", "Details.");
        says("the call answers the number; nothing changes but how many there were;");
        for (int i = 0; i < CALLS; i++) {
            anew();
            seven();
            x.score(1, 2, 0);
            fill(0, 0, 1, 0, 2);
            fill(1, 1, 1, 0);
            x.show(2, 3);
            x.act(6, 2, 1);
            long[] ahead = all();
            no(refusedCall(i), wanted(i));
            same(ahead);
        }
        says("the first that fits, in this order):");
        x.player(0, 0);
        x.show(1, 0);
        x.row(2, 0, 3);
        x.row(3, 1, 3);
        no(x.row(8, 4, -1), -1);
        no(x.row(0, 4, -1), -4);
        no(x.row(0, 4, 161), -6);
        no(x.copy(8, 1, -1, -1, -1), -1);
        no(x.copy(1, 0, -1, -1, -1), -2);
        no(x.copy(2, 3, -1, -1, -1), -2);
        no(x.copy(2, 0, -1, -1, -1), -3);
        no(x.copy(2, 2, -1, -1, -1), -4);
        no(x.whom(8, -1, 3), -11);
        no(x.whom(1, -1, 3), -12);
        no(x.whom(0, -1, 3), -13);
        no(x.whom(2, -1, 3), -14);
        x.set(2, 0, 9);
        no(x.whom(2, 1, 3), -15);
        no(x.whom(2, 4, 0), -15);
        no(x.behind(2, 1, 6), -5);
        no(x.run(2, 4, 2), -5);
    }

    private static final int CALLS = 36;

    /** A call for each way to be refused that a method has, but for the orders among them. */
    private static int refusedCall(int i) {
        switch (i) {
            case 0: return x.row(8, 0, 1);
            case 1: return x.row(0, 0, -1);
            case 2: return x.row(0, 4, 1);
            case 3: return x.row(0, 0, 161);
            case 4: return x.set(2, 0, 1);
            case 5: return x.set(3, 0, 1);
            case 6: return x.set(0, 3, 1);
            case 7: return x.copy(0, 0, 0, 1, 3);
            case 8: return x.copy(0, 1, 0, 0, 1);
            case 9: return x.show(0, 7);
            case 10: return x.says(0, 0);
            case 11: return x.says(2, 1);
            case 12: return x.player(7, 0);
            case 13: return x.player(0, 10);
            case 14: return x.playerOf(7, 0);
            case 15: return x.at(6);
            case 16: return x.put(6, 0);
            case 17: return x.put(0, 7);
            case 18: return x.turn(6);
            case 19: return x.ask(4, 26);
            case 20: return x.score(0, 15, 1);
            case 21: return x.team(2);
            case 22: return x.good(6, 0);
            case 23: return x.open(2);
            case 24: return x.value(2);
            case 25: return x.often(2);
            case 26: return x.blocked(2, 0);
            case 27: return x.side(0, 10);
            case 28: return x.bold(6);
            case 29: return x.strong(2);
            case 30: return x.chance(15, 15, 0, 0);
            case 31: return x.judge(3, 0) + x.status(13) - 1;
            case 32: return x.behind(0, 3, 0);
            case 33: return x.rally(2);
            case 34: return x.rallies(201);
            default: return x.restore();
        }
    }

    private static int wanted(int i) {
        int[] wanted = {-1, -4, -6, -7, -2, -3, -5, -5, -2, -1, -2, -2, -1, -6, -15, -11, -11, -11, -16, -6, -6, -2, -1, -6,
            -6, -6, -6, -6, -1, -5, -6, -13, -6, -6, -6, -6};
        return wanted[i];
    }

    private static void eachRefusal() {
        says("-1 NOBODY: no such SHELF, PLAYER, PLACE, KIND.");
        no(x.row(8, 0, 1), -1);
        no(x.show(0, 0), -1);
        no(x.good(6, 0), -1);
        no(x.player(7, 0), -1);
        due(x.player(0, 0), 0);
        due(x.show(7, 0), 1);
        no(x.show(7, 1), -1);
        says("-2 OTHER: a SHELF that holds a PLAYER where a ROW is wanted, or the other way about, ROWS of two SORTS, a PLAYER who isn't of the KIND wanted, or one under it.");
        x.player(0, 0);
        x.show(0, 0);
        x.row(1, 0, 1);
        x.row(2, 1, 1);
        no(x.set(0, 0, 0), -2);
        no(x.says(1, 0), -2);
        no(x.copy(1, 2, 0, 0, 1), -2);
        no(x.says(0, 1), -2);
        due(x.says(0, 0), -1);
        says("-3 NOTHING: a SHELF that holds NOTHING.");
        no(x.set(0, 0, 0), -3);
        no(x.says(7, 0), -3);
        x.row(0, 0, 0);
        no(x.set(0, 0, 0), -5);
        x.show(0, -1);
        no(x.set(0, 0, 0), -3);
        says("-4 BELOW: a size below 0.");
        no(x.row(0, 0, -1), -4);
        no(x.row(0, 0, MIN), -4);
        due(x.row(0, 0, 0), 1);
        no(x.copy(0, 0, 0, 0, -1), -4);
        due(x.copy(0, 0, 0, 0, 0), 1);
        no(x.judge(0, -1), -14);
        due(x.judge(0, 0), -1);
        says("-5 BEYOND: an element that isn't there; nothing such to be told of.");
        x.row(0, 0, 1);
        no(x.set(0, 1, 0), -5);
        no(x.set(0, -1, 0), -5);
        due(x.set(0, 0, 0), 1);
        no(x.judge(0, 2), -15);
        no(x.strong(2), -5);
        says("-6 WRONG: a number that may not be, a FAULT, what can't be as things stand.");
        no(x.open(2), -6);
        fault("turns", 4);
        no(x.restore(), -6);
        no(x.score(15, 0, 0), -6);
        says("-7 ROOM: more than may be.");
        no(x.row(0, 0, 161), -7);
        due(x.row(0, 0, 160), 1);
        for (int i = 0; i < 12; i++) x.player(0, 0);
        no(x.player(0, 0), -7);
    }

    private static void details() {
        section("Details.", "## Promise 1");
        says("turn stands alone in a text.");
        fault("turn 1", 4);
        fault("turn1", 4);
        told("turn");
        says("OFTEN is the first PLACE of the greatest BLOW if none is greater than v.");
        x.ask(0, 0);
        six(PLAYER, 0, TALL, 0, TALL, 0);
        due(x.often(1), 2);
        x.put(0, 2);
        due(x.often(1), 1);
        says("A mean is cut at each score.");
        x.ask(4, 7);
        x.ask(3, 333);
        due(x.chance(1, 6, 0, 0), 1363);
        due(x.chance(0, 6, 0, 0), 453);
        says("CHANGE goes from POINTS and who serves as now,");
        x.ask(4, 2);
        x.ask(0, 0);
        six(LIBERO, 0);
        x.player(TALL, 9);
        x.score(0, 1, 1);
        due(x.change(), 1);
        x.score(1, 1, 0);
        due(x.change(), -1);
        x.score(1, 0, 0);
        due(x.change(), 1);
        x.score(0, 1, 0);
        due(x.change(), -1);
        says("told RALLIES from how all is now, and tell how many TURNS and SETS there were in them.");
        x.ask(4, 2);
        fill(0, 0, 1, 0, 1);
        x.rally(1);
        x.rally(1);
        x.rally(0);
        x.rally(0);
        x.rally(1);
        statuses(2, 1, 0, 0, 1, 1);
        int[][] want = {{1, 0, 0, 0, 0, 0}, {0, 0, 1, 0, 1, 0}, {0, 1, 1, 0, 1, 0}, {1, 1, 0, 1, 1, 0}};
        for (int n = 0; n < 4; n++) for (int what = 0; what < 6; what++) due(x.behind(0, n, what), want[n][what]);
        anew();
        x.ask(4, 25);
        x.row(0, 0, 40);
        for (int i = 1; i < 40; i += 2) x.set(0, i, 1);
        due(x.behind(0, 40, 3), 20);
        says("RALLIES of team() and rally() count, too.");
        told("rally 0;rally 1");
        due(x.status(7), 2);
        x.rally(0);
        due(x.status(7), 3);
        fault("rally 0;rally 2", 14);
        due(x.status(7), 3);
        says("Another what of ask() is -6.");
        for (int what : new int[] {5, -1, MAX, MIN}) no(x.ask(what, 1), -6);
        statuses(18, 5, 3, 400, 15);
        says("Numbers of a text may begin with 0.");
        told("player 03 0007;on 005 00;block 01;break 0999;goal 09;rally 00");
        due(x.playerOf(0, 0), 3);
        due(x.playerOf(0, 1), 7);
        floor(-1, -1, -1, -1, -1, 0);
        due(x.status(8), 1);
        due(x.status(20), 999);
        due(x.status(21), 9);
        says("Elements of a ROW of longs count by their lowest 32 bits wherever a ROW tells something.");
        seven();
        long high = 7L << 32;
        fill(0, 3, high + 't', -high + 'u', Long.MIN_VALUE + 'r', 'n');
        due(x.team(0), 1);
        fill(0, 3, high + 1, -high, 1);
        due(x.judge(0, 3), -1);
        due(x.run(0, 3, 1), 1);
        due(x.behind(0, 3, 3), 2);
        due(x.whom(0, 3, 0), 1);
        due(x.whom(0, 3, 1), 2);
        due(x.whom(0, 1, 2), 1);
        due(x.element(0, 0), high + 1);
        says("Whether there is room for a word is asked when its letters stand whole: until then the first element that is not as it is the FAULT, or the number of elements.");
        for (int i = 0; i < 12; i++) x.player(0, 0);
        fault("player", 0);
        fault("playerx", 0);
        fault("player 9", 0);
        fault("playex", 5);
        fault("playe", 5);
        fault("turn;play", 9);
        fault("turn;plax", 8);
        fault("turn;player 0 0", 5);
    }

    public static void main(String[] args) {
        calls();
        players();
        places();
        asked();
        texts();
        numbers();
        faults();
        skill();
        blow();
        openAndValue();
        oftenAndBlocked();
        side();
        rallies();
        unchanged();
        serves();
        chances();
        beginAndChange();
        toldRallies();
        whomHeSet();
        draws();
        shelves();
        acts();
        refusalNumbers();
        eachRefusal();
        details();
        end("the terms hold, word by word");
    }
}
