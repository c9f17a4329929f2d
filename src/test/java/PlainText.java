import java.util.ArrayList;
import java.util.List;

/** Reads a TEAM's text sign by sign, as PlainModel needs it. */
final class PlainText {
    final PlainModel.State team;
    int fault = -1;
    int items = 0;
    private String word = "";
    private List<Integer> numbers = null;
    private String digits = null;
    private int start;

    PlainText(PlainModel.State team, long[] row) {
        this.team = team;
        for (int i = 0; i < row.length && fault < 0; i++) {
            sign((int) row[i], i);
        }
        if (fault < 0) {
            end(row.length);
        }
    }

    private void sign(int c, int i) {
        if (digits != null && (c < '0' || c > '9' || digits.length() == 4)) {
            numberEnds();
            if (fault >= 0) return;
        }
        if (numbers == null) {
            letter(c, i);
        } else if (digits != null) {
            digits += (char) c;
        } else if (c == ' ' && numbers.size() < wanted()) {
            digits = "";
            start = i + 1;
        } else if (c == ';' && numbers.size() == wanted()) {
            tell();
        } else {
            fault = i;
        }
    }

    private void letter(int c, int i) {
        boolean some = false;
        for (String w : PlainModel.WORDS) {
            some |= c > 0 && c < 128 && w.startsWith(word + (char) c);
        }
        if (!some) {
            fault = i;
            return;
        }
        word += (char) c;
        for (String w : PlainModel.WORDS) {
            if (w.equals(word)) {
                numbers = new ArrayList<>();
                if (word.equals("player") && team.players.size() == 12) fault = i - 5;
            }
        }
    }

    private int wanted() {
        return word.equals("turn") ? 0 : word.equals("player") || word.equals("on") || word.equals("serve") ? 2 : 1;
    }

    private void numberEnds() {
        int n = digits.isEmpty() ? -1 : Integer.parseInt(digits);
        int from = word.equals("goal") ? 1 : 0;
        int to;
        switch (word + numbers.size()) {
            case "player0": to = 6; break;
            case "player1": case "serve1": to = 9; break;
            case "on0": case "serve0": to = 5; break;
            case "on1": to = team.players.size() - 1; break;
            case "block0": to = 60; break;
            case "break0": to = 1000; break;
            case "goal0": to = 25; break;
            default: to = 1;
        }
        if (n < from || n > to) {
            fault = start;
        }
        numbers.add(n);
        digits = null;
    }

    private void end(int length) {
        if (digits != null) {
            numberEnds();
        }
        if (fault < 0 && (numbers == null || numbers.size() < wanted())) {
            fault = length;
        }
        if (fault < 0) {
            tell();
        }
    }

    private void tell() {
        switch (word) {
            case "player": team.players.add(new int[] {numbers.get(0), numbers.get(1)}); break;
            case "on": team.put(numbers.get(0), numbers.get(1)); break;
            case "turn": team.turn(); break;
            case "block": team.ask(0, numbers.get(0)); break;
            case "serve": team.ask(1, numbers.get(0)); team.ask(2, numbers.get(1)); break;
            case "break": team.ask(3, numbers.get(0)); break;
            case "goal": team.ask(4, numbers.get(0)); break;
            default: team.play(numbers.get(0));
        }
        items++;
        word = "";
        numbers = null;
    }
}
