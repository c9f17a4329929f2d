import java.io.IOException;
import java.nio.file.Files;
import java.nio.file.Path;
import java.util.ArrayList;
import java.util.List;

/**
 * Tests that quote the document: each quotation begins with a new object, and no word of a section
 * may stay unquoted, so that no sentence is without a test of its own.
 */
abstract class Words {
    static final int PLAYER = 0;
    static final int STRIKER = 1;
    static final int LIFTER = 2;
    static final int TALL = 3;
    static final int SMALL = 4;
    static final int QUICK = 5;
    static final int LIBERO = 6;
    static final int MAX = Integer.MAX_VALUE;
    static final int MIN = Integer.MIN_VALUE;
    /** Sizes, places and numbers that are too small or too large everywhere. */
    static final int[] FAR_OFF = {-2, MIN, 200, 65536, MAX};

    static ToLiftToStrike x = new ToLiftToStrike();
    private static final List<String> unquoted = new ArrayList<>();
    private static int[] counted = new int[8];
    private static String section = "";
    private static String left = "";
    private static String quotation = "";
    private static int asked = 0;
    private static int wrong = 0;

    /** The words from one heading to the next, in one line; the head of the method isn't among them. */
    static void section(String from, String to) {
        sectionEnds();
        String doc = "";
        try {
            doc = Files.readString(Path.of("../shared/DOC.md"));
        } catch (IOException e) {
            unquoted.add("the document can't be read");
        }
        int start = doc.indexOf(from);
        int end = doc.indexOf(to, Math.max(0, start));
        section = from;
        left = "";
        if (start < 0 || end < 0) {
            unquoted.add("no section from " + from + " to " + to);
        } else {
            left = doc.substring(start + from.length(), end).replaceFirst("(?s)^: [a-zA-Z ]+\\R+`[^`]*`: ", "")
                .replaceAll("```[a-z]*", " ").replaceAll("\\s+", " ");
        }
    }

    static void promise(int n) {
        section("## Promise " + n, n < 43 ? "## Promise " + (n + 1) : "## Not promised");
    }

    private static void sectionEnds() {
        if (left.matches("(?s).*[A-Za-z0-9].*")) {
            unquoted.add(section + " leaves unquoted: " + left.replaceAll("\\s+", " "));
        }
    }

    /** Quotes these words, which no longer count as unquoted, and makes a new object to try them on. */
    static void says(String words) {
        int at = left.indexOf(words);
        if (at < 0) {
            unquoted.add(section + " doesn't say: " + words);
        } else {
            left = left.substring(0, at) + "\n" + left.substring(at + words.length());
        }
        quotation = words;
        anew();
    }

    /** One more object for the same words. */
    static void anew() {
        x = new ToLiftToStrike();
        counted = new int[8];
        asked = 0;
    }

    static void due(long got, long want) {
        asked++;
        if (got != want) {
            wrong++;
            if (wrong < 60) System.out.println(section + ", \"" + quotation + "\", question " + asked + ": answered " + got + ", due is " + want);
        }
    }

    /** A REFUSAL: the number, counted once, as nothing else is since the object was made. */
    static void no(int got, int want) {
        due(got, want);
        counted[-(want < -10 ? want + 10 : want)]++;
        refusals();
    }

    static void refusals() {
        for (int n = 1; n <= 7; n++) due(x.status(10 + n), counted[n]);
    }

    static void fill(int s, int sort, long... elements) {
        due(x.row(s, sort, elements.length), 1);
        for (int i = 0; i < elements.length; i++) due(x.set(s, i, elements[i]), 1);
    }

    /** Reads a TEAM from the text, on SHELF 7. */
    static int text(String text) {
        x.row(7, 0, text.length());
        for (int i = 0; i < text.length(); i++) x.set(7, i, text.charAt(i));
        return x.team(7);
    }

    static void told(String text) {
        due(text(text), text.split(";").length);
        due(x.fault(), -1);
    }

    static void fault(String text, int want) {
        no(text(text), -6);
        due(x.fault(), want);
    }

    /** PLAYERS by KIND and a, the first six of them ON, from PLACE 0 on. */
    static void six(int... kindsAndAs) {
        for (int i = 0; i + 1 < kindsAndAs.length; i += 2) {
            int number = x.player(kindsAndAs[i], kindsAndAs[i + 1]);
            if (i < 12) due(x.put(number, number), -1);
        }
    }

    /** STRIKER 4, TALL 5, QUICK 6, LIFTER 7, SMALL 8, LIBERO 9 ON, and PLAYER 3 beside them. */
    static void seven() {
        six(STRIKER, 4, TALL, 5, QUICK, 6, LIFTER, 7, SMALL, 8, LIBERO, 9, PLAYER, 3);
    }

    static void floor(int... want) {
        for (int place = 0; place < want.length; place++) due(x.at(place), want[place]);
    }

    static void statuses(int from, int... want) {
        for (int i = 0; i < want.length; i++) due(x.status(from + i), want[i]);
    }

    /** All that can be told of the object but REFUSALS; of ROWS the first elements. */
    static long[] all() {
        List<Long> all = new ArrayList<>();
        for (int what = 0; what < 22; what++) if (what < 11 || what > 17) all.add((long) x.status(what));
        for (int place = 0; place < 6; place++) all.add((long) x.at(place));
        for (int s = 0; s < 8; s++) {
            all.add((long) x.holds(s));
            for (int i = 0; i < 3; i++) all.add(x.element(s, i));
        }
        for (int i = 0; i < 3; i++) all.add((long) x.trace(i));
        all.add((long) x.fault());
        return all.stream().mapToLong(Long::longValue).toArray();
    }

    static void same(long[] ahead) {
        long[] now = all();
        for (int i = 0; i < now.length; i++) due(now[i], ahead[i]);
    }

    static void end(String fine) {
        sectionEnds();
        for (String words : unquoted) System.out.println(words);
        int faults = wrong + unquoted.size();
        System.out.println(faults == 0 ? fine : faults + " faults");
        if (faults > 0) System.exit(1);
    }
}
