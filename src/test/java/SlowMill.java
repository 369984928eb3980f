import java.util.ArrayList;
import java.util.List;
import java.util.regex.Pattern;

/**
 * The document once more, in the plainest words and on texts: what SlideMills is compared with.
 * A token is its letter, or {distance, length}.
 */
final class SlowMill {
    private static final Pattern WORKS = Pattern.compile(
            "PART(;PART)*".replace("PART", "(\\+[a-d]+|-|p[0-2]|u|e|l[a-d]|r([1-9]|[12][0-9]|3[0-9]),([1-9]|[123][0-9]|40))"));
    /** With one of these behind it, each beginning of works is works. */
    private static final String[] ENDS = {"", "u", "a", "0", "1,1", ",1", "1"};

    private record Token(char letter, int distance, int length) {
        boolean repeats() {
            return distance > 0;
        }
    }

    private record All(String text, List<Token> sack, int window, int shortest, int longest, int letterPrice,
            int repeatPrice, int stopPart, int stopReason) {
    }

    private String text = "";
    private List<Token> sack = new ArrayList<>();
    private int window = 16;
    private int shortest = 3;
    private int longest = 8;
    private int letterPrice = 3;
    private int repeatPrice = 5;
    private int stopPart = 0;
    private int stopReason = 0;
    private String buffer = "";
    private final List<All> saved = new ArrayList<>();
    private All snapshot = null;

    private All all() {
        return new All(text, new ArrayList<>(sack), window, shortest, longest, letterPrice, repeatPrice, stopPart,
                stopReason);
    }

    private void save() {
        saved.add(all());
        if (saved.size() > 6) {
            saved.remove(0);
        }
    }

    private void become(All all) {
        text = all.text;
        sack = new ArrayList<>(all.sack);
        window = all.window;
        shortest = all.shortest;
        longest = all.longest;
        letterPrice = all.letterPrice;
        repeatPrice = all.repeatPrice;
        stopPart = all.stopPart;
        stopReason = all.stopReason;
    }

    private static void argument(boolean right) {
        if (!right) {
            throw new IllegalArgumentException();
        }
    }

    private static void possible(boolean right) {
        if (!right) {
            throw new IllegalStateException();
        }
    }

    private static void there(int index, int count) {
        if (index < 0 || index >= count) {
            throw new IndexOutOfBoundsException();
        }
    }

    private static boolean in(int number, int least, int most) {
        return least <= number && number <= most;
    }

    private static char sign(int letter) {
        return "abcd".charAt(letter);
    }

    public int addLetter(int letter) {
        argument(in(letter, 0, 3));
        possible(text.length() < 40);
        save();
        text += sign(letter);
        return text.length();
    }

    public int setLetter(int place, int letter) {
        there(place, text.length());
        argument(in(letter, 0, 3));
        save();
        int before = letterAt(place);
        text = text.substring(0, place) + sign(letter) + text.substring(place + 1);
        return before;
    }

    public int emptyText() {
        save();
        int before = text.length();
        text = "";
        return before;
    }

    public int setWindow(int places) {
        argument(in(places, 1, 32));
        save();
        int before = window;
        window = places;
        return before;
    }

    public int setShortest(int length) {
        argument(in(length, 2, 4));
        save();
        int before = shortest;
        shortest = length;
        return before;
    }

    public int setLongest(int length) {
        argument(in(length, 4, 9));
        save();
        int before = longest;
        longest = length;
        return before;
    }

    public int setLetterPrice(int price) {
        argument(in(price, 1, 9));
        save();
        int before = letterPrice;
        letterPrice = price;
        return before;
    }

    public int setRepeatPrice(int price) {
        argument(in(price, 1, 20));
        save();
        int before = repeatPrice;
        repeatPrice = price;
        return before;
    }

    public int pack(int way) {
        argument(in(way, 0, 2));
        save();
        sack = packed(way);
        return sack.size();
    }

    public int unpack() {
        possible(wrongReason() == 0);
        save();
        text = unpacked();
        return text.length();
    }

    public int addToken(int letter) {
        argument(in(letter, 0, 3));
        possible(sack.size() < 40);
        save();
        sack.add(new Token(sign(letter), 0, 1));
        return sack.size();
    }

    public int addRepeat(int distance, int length) {
        argument(in(distance, 1, 39) && in(length, 1, 40));
        possible(sack.size() < 40);
        save();
        sack.add(new Token(' ', distance, length));
        return sack.size();
    }

    public int takeLast() {
        possible(!sack.isEmpty());
        save();
        sack.remove(sack.size() - 1);
        return sack.size();
    }

    public int emptySack() {
        save();
        int before = sack.size();
        sack.clear();
        return before;
    }

    public int append(int code) {
        argument(in(code, 33, 126));
        possible(buffer.length() < 60);
        buffer += (char) code;
        return buffer.length();
    }

    public int clearBuffer() {
        int before = buffer.length();
        buffer = "";
        return before;
    }

    public int firstError() {
        for (int i = 0; i < buffer.length(); i++) {
            boolean begins = false;
            for (String end : ENDS) {
                begins |= WORKS.matcher(buffer.substring(0, i + 1) + end).matches();
            }
            if (!begins) {
                return i;
            }
        }
        return buffer.length();
    }

    public int work() {
        argument(WORKS.matcher(buffer).matches());
        save();
        String[] parts = buffer.split(";");
        buffer = "";
        stopReason = 0;
        for (int i = 0; i < parts.length; i++) {
            stopReason = whyNot(parts[i]);
            if (stopReason != 0) {
                stopPart = i;
                return i;
            }
        }
        return parts.length;
    }

    /** Does the part, or tells why not. */
    private int whyNot(String part) {
        String rest = part.substring(1);
        switch (part.charAt(0)) {
            case '+' -> {
                if (text.length() + rest.length() > 40) {
                    return 3;
                }
                text += rest;
            }
            case '-' -> text = "";
            case 'p' -> sack = packed(Integer.parseInt(rest));
            case 'u' -> {
                if (wrongReason() != 0) {
                    return wrongReason();
                }
                text = unpacked();
            }
            case 'e' -> sack.clear();
            default -> {
                if (sack.size() == 40) {
                    return 4;
                }
                String[] numbers = rest.split(",");
                sack.add(part.charAt(0) == 'l' ? new Token(rest.charAt(0), 0, 1)
                        : new Token(' ', Integer.parseInt(numbers[0]), Integer.parseInt(numbers[1])));
            }
        }
        return 0;
    }

    public boolean hasStopped() {
        return stopReason != 0;
    }

    public int stoppedPart() {
        possible(hasStopped());
        return stopPart;
    }

    public int whyStopped() {
        possible(hasStopped());
        return stopReason;
    }

    public int undo() {
        possible(!saved.isEmpty());
        become(saved.remove(saved.size() - 1));
        return saved.size();
    }

    public int keep() {
        snapshot = all();
        return text.length();
    }

    public int restore() {
        possible(snapshot != null);
        save();
        become(snapshot);
        return text.length();
    }

    public int savedStates() {
        return saved.size();
    }

    public int textLength() {
        return text.length();
    }

    public int letterAt(int place) {
        there(place, text.length());
        return text.charAt(place) - 'a';
    }

    public int window() {
        return window;
    }

    public int shortest() {
        return shortest;
    }

    public int longest() {
        return longest;
    }

    public int tokens() {
        return sack.size();
    }

    public boolean isRepeat(int token) {
        there(token, sack.size());
        return sack.get(token).repeats();
    }

    public int letterOf(int token) {
        possible(!isRepeat(token));
        return sack.get(token).letter - 'a';
    }

    public int distanceOf(int token) {
        possible(isRepeat(token));
        return sack.get(token).distance;
    }

    public int lengthOf(int token) {
        there(token, sack.size());
        return sack.get(token).length;
    }

    public int sackCost() {
        return costOf(sack);
    }

    private int costOf(List<Token> row) {
        return row.stream().mapToInt(token -> token.repeats() ? repeatPrice : letterPrice).sum();
    }

    public int sackLetters() {
        return sack.stream().mapToInt(Token::length).sum();
    }

    public int wrongToken() {
        int so = 0;
        for (int i = 0; i < sack.size(); i++) {
            if (sack.get(i).distance > so || so + sack.get(i).length > 40) {
                return i;
            }
            so += sack.get(i).length;
        }
        return -1;
    }

    public int wrongReason() {
        int wrong = wrongToken();
        if (wrong < 0) {
            return 0;
        }
        int so = sack.subList(0, wrong).stream().mapToInt(Token::length).sum();
        return sack.get(wrong).distance > so ? 1 : 2;
    }

    private String unpacked() {
        StringBuilder all = new StringBuilder();
        for (Token token : sack) {
            for (int i = 0; i < token.length; i++) {
                all.append(token.repeats() ? all.charAt(all.length() - token.distance) : token.letter);
            }
        }
        return all.toString();
    }

    public boolean isForText() {
        return wrongToken() < 0 && unpacked().equals(text);
    }

    private boolean isPossible(int place, int distance, int length, int places) {
        if (distance > places || distance > place || length < shortest || length > longest
                || place + length > text.length()) {
            return false;
        }
        return text.substring(place, place + length).equals(text.substring(place - distance, place - distance + length));
    }

    /** {distance, length}, or {0, 0}. */
    private int[] longestRepeat(int place) {
        for (int length = 9; length > 0; length--) {
            for (int distance = 1; distance <= 40; distance++) {
                if (isPossible(place, distance, length, window)) {
                    return new int[] {distance, length};
                }
            }
        }
        return new int[] {0, 0};
    }

    public int repeatLength(int place) {
        there(place, text.length());
        return longestRepeat(place)[1];
    }

    public int repeatLengthByPairs(int place) {
        return repeatLength(place);
    }

    public int repeatDistance(int place) {
        there(place, text.length());
        return longestRepeat(place)[0];
    }

    private List<Token> packed(int way) {
        List<Token> row = new ArrayList<>();
        int place = 0;
        while (place < text.length()) {
            int[] repeat = way == 2 ? cheapestRepeat(place) : longestRepeat(place);
            if (way == 1 && longestRepeat(place + 1)[1] > repeat[1]) {
                repeat = new int[] {0, 0};
            }
            row.add(repeat[0] == 0 ? new Token(text.charAt(place), 0, 1) : new Token(' ', repeat[0], repeat[1]));
            place += row.get(row.size() - 1).length;
        }
        return row;
    }

    private int[] cheapestRepeat(int place) {
        int[] least = leasts(window);
        for (int length = 9; length > 0; length--) {
            for (int distance = 1; distance <= 40; distance++) {
                if (isPossible(place, distance, length, window)
                        && least[place] == repeatPrice + least[place + length]) {
                    return new int[] {distance, length};
                }
            }
        }
        return new int[] {0, 0};
    }

    /** The least costs of the text from each place on. */
    private int[] leasts(int places) {
        int[] least = new int[text.length() + 1];
        for (int place = text.length() - 1; place >= 0; place--) {
            least[place] = letterPrice + least[place + 1];
            for (int distance = 1; distance <= place; distance++) {
                for (int length = 1; length <= 9; length++) {
                    if (isPossible(place, distance, length, places)) {
                        least[place] = Math.min(least[place], repeatPrice + least[place + length]);
                    }
                }
            }
        }
        return least;
    }

    public int costBy(int way) {
        argument(in(way, 0, 2));
        return costOf(packed(way));
    }

    public int tokensBy(int way) {
        argument(in(way, 0, 2));
        return packed(way).size();
    }

    public int leastCost() {
        return leasts(window)[0];
    }

    public int leastCostFromBeginning() {
        return leasts(window)[0];
    }

    public int leastCostWith(int places) {
        argument(in(places, 1, 32));
        return leasts(places)[0];
    }

    private static String pairOf(int pair) {
        argument(in(pair, 0, 15));
        return "" + sign(pair / 4) + sign(pair % 4);
    }

    public int pairs(int pair) {
        String signs = pairOf(pair);
        int count = 0;
        for (int at = text.indexOf(signs); at >= 0; at = text.indexOf(signs, at + 1)) {
            count++;
        }
        return count;
    }

    public int lastPlaceOf(int pair) {
        return text.lastIndexOf(pairOf(pair));
    }

    public int mostFrequent() {
        possible(text.length() >= 2);
        int best = 0;
        for (int pair = 0; pair < 16; pair++) {
            best = pairs(pair) > pairs(best) ? pair : best;
        }
        return best;
    }

    public double packedShare() {
        return sack.isEmpty() ? 1.0 : (double) sackCost() / (letterPrice * sackLetters());
    }

    public long digest() {
        List<Long> values = new ArrayList<>();
        add(values, text.length());
        text.chars().forEach(sign -> add(values, sign - 'a'));
        add(values, window, shortest, longest, sack.size(), sackCost(), sackLetters(), wrongToken(), wrongReason(),
                isForText() ? 1 : 0, leastCost(), leastCostFromBeginning(), leastCostWith(32));
        for (int way = 0; way < 3; way++) {
            add(values, costBy(way), tokensBy(way));
        }
        add(values, saved.size());
        for (Token token : sack) {
            add(values, token.repeats() ? 1 : 0, token.length,
                    token.repeats() ? token.distance : token.letter - 'a');
        }
        for (int place = 0; place < text.length(); place++) {
            add(values, repeatLength(place), repeatLengthByPairs(place), repeatDistance(place));
        }
        for (int pair = 0; pair < 16; pair++) {
            add(values, pairs(pair), lastPlaceOf(pair));
        }
        if (text.length() >= 2) {
            add(values, mostFrequent());
        }
        add(values, hasStopped() ? 1 : 0);
        if (hasStopped()) {
            add(values, stopPart, stopReason);
        }
        add(values, Double.doubleToLongBits(packedShare()), buffer.length());
        buffer.chars().forEach(code -> add(values, code));
        long hash = 4483;
        for (long value : values) {
            hash = 31 * hash + value;
        }
        return hash;
    }

    private static void add(List<Long> values, long... more) {
        for (long value : more) {
            values.add(value);
        }
    }
}
