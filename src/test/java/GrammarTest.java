import java.util.HashSet;
import java.util.Set;

/**
 * The grammar by a list of all parts that there are (but for "+" with its letters, of which there is no end), and of
 * all that they begin with: compared for every row of characters of some lengths.
 */
public final class GrammarTest {
    private static final Checks CHECKS = new Checks();
    private static final Set<String> PARTS = new HashSet<>();
    private static final Set<String> BEGINNINGS = new HashSet<>();
    private static final String[] AHEAD = {"+", "+a", "-", "p", "p0", "l", "lb", "r", "r1", "r12", "r4", "r39", "r12,",
        "r1,2", "r1,23", "r1,4", "r1,40", "u", "e", "u;", "+ab;"};

    private final SlideMills mill = new SlideMills();

    public static void main(String[] args) {
        listParts();
        GrammarTest test = new GrammarTest();
        test.compareAll("", 5, "+-;ar,140");
        test.compareAll("", 3, "+-;abcdpulr,e01234569");
        test.compareAll("r", 5, "0123459,");
        String signs = allSigns();
        for (String ahead : AHEAD) {
            test.compareAll(ahead, 1, signs);
        }
        test.compareAll("", 2, signs);
        CHECKS.end();
    }

    private static void listParts() {
        for (String part : new String[] {"-", "u", "e", "p0", "p1", "p2", "la", "lb", "lc", "ld"}) {
            PARTS.add(part);
        }
        for (int distance = 1; distance <= 39; distance++) {
            for (int length = 1; length <= 40; length++) {
                PARTS.add("r" + distance + "," + length);
            }
        }
        for (String part : PARTS) {
            for (int end = 0; end <= part.length(); end++) {
                BEGINNINGS.add(part.substring(0, end));
            }
        }
    }

    private static String allSigns() {
        StringBuilder signs = new StringBuilder();
        for (char sign = 33; sign <= 126; sign++) {
            signs.append(sign);
        }
        return signs.toString();
    }

    private void compareAll(String characters, int more, String signs) {
        compare(characters);
        for (int i = 0; more > 0 && i < signs.length(); i++) {
            compareAll(characters + signs.charAt(i), more - 1, signs);
        }
    }

    private void compare(String characters) {
        mill.clearBuffer();
        Mills.type(mill, characters);
        CHECKS.same("firstError of " + characters, firstError(characters), mill.firstError());
        Object done = Checks.answer(mill::work);
        CHECKS.same("work is refused: " + characters, !isComplete(characters), "IllegalArgumentException".equals(done));
        CHECKS.same("left behind " + characters, isComplete(characters) ? 0 : characters.length(), mill.clearBuffer());
    }

    private static int firstError(String characters) {
        for (int i = 0; i < characters.length(); i++) {
            if (!begins(characters.substring(0, i + 1))) {
                return i;
            }
        }
        return characters.length();
    }

    private static boolean begins(String characters) {
        int cut = characters.lastIndexOf(';');
        String last = characters.substring(cut + 1);
        return (cut < 0 || isComplete(characters.substring(0, cut)))
                && (BEGINNINGS.contains(last) || hasLettersAlone(last));
    }

    private static boolean isComplete(String characters) {
        for (String part : characters.split(";", -1)) {
            if (!PARTS.contains(part) && !(hasLettersAlone(part) && part.length() > 1)) {
                return false;
            }
        }
        return true;
    }

    private static boolean hasLettersAlone(String part) {
        boolean right = part.startsWith("+");
        for (int i = 1; i < part.length(); i++) {
            right &= part.charAt(i) >= 'a' && part.charAt(i) <= 'd';
        }
        return right;
    }
}
