import java.util.ArrayList;
import java.util.List;

/**
 * Packing and costs by the document's words alone: all rows of tokens that stand for a text are written down, and the
 * one that is meant is chosen among them. No least cost is handed on from place to place here, as the class and SlowMill
 * both do it. All texts of up to nine letters a and b; some longer ones.
 */
public final class RowsTest {
    private static final Checks CHECKS = new Checks();
    private static final Tuning[] TUNINGS = {
        new Tuning(16, 3, 8, 3, 5), new Tuning(2, 2, 4, 1, 1), new Tuning(3, 2, 4, 1, 2), new Tuning(1, 2, 9, 2, 3),
        new Tuning(4, 3, 4, 3, 9), new Tuning(32, 4, 4, 2, 8), new Tuning(5, 2, 5, 1, 20), new Tuning(16, 2, 9, 9, 1),
        new Tuning(2, 2, 4, 1, 4), new Tuning(16, 2, 4, 2, 4), new Tuning(16, 2, 6, 1, 3)};
    private static long seed = 11;

    private record Tuning(int window, int shortest, int longest, int letterPrice, int repeatPrice) {
        Tuning withWindow(int places) {
            return new Tuning(places, shortest, longest, letterPrice, repeatPrice);
        }
    }

    /** What stands at a place; the distance 0 tells a letter. */
    private record Token(int place, int distance, int length) {
    }

    private final String text;
    private final Tuning tuning;

    private RowsTest(String text, Tuning tuning) {
        this.text = text;
        this.tuning = tuning;
    }

    public static void main(String[] args) {
        for (int length = 0; length <= 9; length++) {
            for (int signs = 0; signs < 1 << length; signs++) {
                for (Tuning tuning : TUNINGS) {
                    new RowsTest(textOf(signs, length), tuning).compare();
                }
            }
        }
        for (int run = 0; run < 4000; run++) {
            new RowsTest(anyText(10 + below(4), 2 + below(3)), anyTuning()).compare();
        }
        CHECKS.end();
    }

    /** A row of numbers that is the same in each run of the test. */
    private static int below(int bound) {
        seed = seed * 6364136223846793005L + 1442695040888963407L;
        return (int) ((seed >>> 33) % bound);
    }

    private static String textOf(int signs, int length) {
        StringBuilder text = new StringBuilder();
        for (int place = 0; place < length; place++) {
            text.append((char) ('a' + (signs >> place & 1)));
        }
        return text.toString();
    }

    private static String anyText(int length, int kinds) {
        StringBuilder text = new StringBuilder();
        for (int place = 0; place < length; place++) {
            text.append((char) ('a' + below(kinds)));
        }
        return text.toString();
    }

    private static Tuning anyTuning() {
        return new Tuning(1 + below(13), 2 + below(3), 4 + below(6), 1 + below(9), 1 + below(20));
    }

    private void compare() {
        SlideMills mill = tuned();
        String what = text + " " + tuning;
        List<Token> cheap = cheapest(rows());
        compareWay(mill, 0, byLongest(false), what);
        compareWay(mill, 1, byLongest(true), what);
        compareWay(mill, 2, cheap, what);
        CHECKS.same(what + " leastCost", cost(cheap), mill.leastCost());
        CHECKS.same(what + " leastCostFromBeginning", cost(cheap), mill.leastCostFromBeginning());
        int other = 1 + below(32);
        RowsTest otherwise = new RowsTest(text, tuning.withWindow(other));
        CHECKS.same(what + " leastCostWith " + other, otherwise.cost(otherwise.cheapest(otherwise.rows())),
                mill.leastCostWith(other));
        for (int place = 0; place < text.length(); place++) {
            Token longest = longestAt(place);
            CHECKS.same(what + " repeatLength " + place, longest.length, mill.repeatLength(place));
            CHECKS.same(what + " repeatLengthByPairs " + place, longest.length, mill.repeatLengthByPairs(place));
            CHECKS.same(what + " repeatDistance " + place, longest.distance, mill.repeatDistance(place));
        }
    }

    private SlideMills tuned() {
        SlideMills mill = Mills.withText(text);
        mill.setWindow(tuning.window);
        mill.setShortest(tuning.shortest);
        mill.setLongest(tuning.longest);
        mill.setLetterPrice(tuning.letterPrice);
        mill.setRepeatPrice(tuning.repeatPrice);
        return mill;
    }

    private void compareWay(SlideMills mill, int way, List<Token> due, String what) {
        String at = what + " way " + way;
        CHECKS.same(at + " costBy", cost(due), mill.costBy(way));
        CHECKS.same(at + " tokensBy", due.size(), mill.tokensBy(way));
        CHECKS.same(at + " pack", due.size(), mill.pack(way));
        CHECKS.same(at + " sack", shown(due), Mills.sackOf(mill));
        CHECKS.same(at + " sackCost", cost(due), mill.sackCost());
        CHECKS.same(at + " isForText", true, mill.isForText());
        CHECKS.same(at + " unpack", text.length(), mill.unpack());
        CHECKS.same(at + " unpacked", text, Mills.textOf(mill));
    }

    private boolean isPossible(Token repeat) {
        if (repeat.distance > tuning.window || repeat.distance > repeat.place || repeat.length < tuning.shortest
                || repeat.length > tuning.longest || repeat.place + repeat.length > text.length()) {
            return false;
        }
        return text.startsWith(text.substring(repeat.place, repeat.place + repeat.length),
                repeat.place - repeat.distance);
    }

    private List<Token> repeatsAt(int place) {
        List<Token> repeats = new ArrayList<>();
        for (int distance = 1; distance <= place; distance++) {
            for (int length = 1; length <= text.length() - place; length++) {
                Token repeat = new Token(place, distance, length);
                if (isPossible(repeat)) {
                    repeats.add(repeat);
                }
            }
        }
        return repeats;
    }

    private Token longestAt(int place) {
        Token best = new Token(place, 0, 0);
        for (Token repeat : repeatsAt(place)) {
            best = isMeantBefore(repeat, best) ? repeat : best;
        }
        return best;
    }

    private static boolean isMeantBefore(Token one, Token other) {
        return one.length > other.length || one.length == other.length && one.distance < other.distance;
    }

    private List<Token> byLongest(boolean isLazy) {
        List<Token> row = new ArrayList<>();
        for (int place = 0; place < text.length(); place += row.get(row.size() - 1).length) {
            Token longest = longestAt(place);
            boolean isLonger = isLazy && longestAt(place + 1).length > longest.length;
            row.add(longest.length == 0 || isLonger ? new Token(place, 0, 1) : longest);
        }
        return row;
    }

    /** All rows of letters and possible repeats that stand for the text. */
    private List<List<Token>> rows() {
        List<List<Token>> all = new ArrayList<>();
        List<List<Token>> choices = new ArrayList<>();
        for (int place = 0; place < text.length(); place++) {
            List<Token> here = repeatsAt(place);
            here.add(new Token(place, 0, 1));
            choices.add(here);
        }
        addRows(choices, 0, new ArrayList<>(), all);
        return all;
    }

    private void addRows(List<List<Token>> choices, int place, List<Token> begun, List<List<Token>> all) {
        if (place == text.length()) {
            all.add(new ArrayList<>(begun));
            return;
        }
        for (Token token : choices.get(place)) {
            begun.add(token);
            addRows(choices, place + token.length, begun, all);
            begun.remove(begun.size() - 1);
        }
    }

    /** Of the cheapest rows the one that has the longest token first, then the next, and so on. */
    private List<Token> cheapest(List<List<Token>> rows) {
        List<Token> best = rows.get(0);
        for (List<Token> row : rows) {
            int more = cost(row) - cost(best);
            best = more < 0 || more == 0 && isMeantBefore(row, best) ? row : best;
        }
        return best;
    }

    private static boolean isMeantBefore(List<Token> one, List<Token> other) {
        // Rows for the same text part at a token that both have, so neither of them ends before.
        for (int i = 0; i < one.size() && i < other.size(); i++) {
            if (!one.get(i).equals(other.get(i))) {
                return isMeantBefore(one.get(i), other.get(i));
            }
        }
        return false;
    }

    private int cost(List<Token> row) {
        int sum = 0;
        for (Token token : row) {
            sum += token.distance == 0 ? tuning.letterPrice : tuning.repeatPrice;
        }
        return sum;
    }

    private String shown(List<Token> row) {
        StringBuilder shown = new StringBuilder();
        for (Token token : row) {
            if (token.distance == 0) {
                shown.append(text.charAt(token.place));
            } else {
                shown.append('<').append(token.distance).append(',').append(token.length).append('>');
            }
        }
        return shown.toString();
    }
}
