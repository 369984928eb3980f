/** Repeats and pairs: promises 42 to 44 and 50 to 52. */
final class RepeatEdges extends Edges {
    private static final String[] PAIRS = {"aa", "ab", "ac", "ad", "ba", "bb", "bc", "bd", "ca", "cb", "cc", "cd",
        "da", "db", "dc", "dd"};
    private static final String FULL = Mills.times(10, "abcd");

    RepeatEdges(Sentences doc) {
        super(doc);
    }

    void all() {
        atTheWindow();
        atTheBeginning();
        fromTheShortest();
        toTheLongest();
        atTheEnd();
        severalDistances();
        byTheDictionary();
        noSuchPlace();
        eachPair();
        pairPlaces();
        noSuchPair();
        mostFrequent();
    }

    private void repeat(SlideMills x, int place, int length, int distance) {
        String at = Mills.textOf(x) + " at " + place + ": ";
        due(at + "length", length, () -> x.repeatLength(place));
        due(at + "length by pairs", length, () -> x.repeatLengthByPairs(place));
        due(at + "distance", distance, () -> x.repeatDistance(place));
    }

    private void atTheWindow() {
        of(0, "A repeat is possible at a place of the text, if its distance is at most the window");
        for (int distance = 4; distance <= 33; distance++) {
            SlideMills x = Mills.withText("abc" + Mills.times(distance - 3, "d") + "abca");
            if (distance <= 32) {
                x.setWindow(distance);
                repeat(x, distance, 3, distance);
            }
            x.setWindow(distance - 1);
            repeat(x, distance, 0, 0);
        }
        SlideMills near = Mills.withText("abcdabcaabcda");
        near.setWindow(8);
        repeat(near, 8, 5, 8);
        near.setWindow(7);
        repeat(near, 8, 3, 4);
        near.setWindow(4);
        repeat(near, 8, 3, 4);
        near.setWindow(3);
        repeat(near, 8, 0, 0);
        SlideMills next = Mills.withText("aaaa");
        next.setWindow(1);
        repeat(next, 1, 3, 1);
        SlideMills second = Mills.withText("ababa");
        second.setWindow(1);
        repeat(second, 2, 0, 0);
        second.setWindow(2);
        repeat(second, 2, 3, 2);
    }

    private void atTheBeginning() {
        of(0, "A repeat is possible at a place of the text");
        repeat(Mills.withText("a"), 0, 0, 0);
        repeat(Mills.withText(Mills.times(40, "a")), 0, 0, 0);
        repeat(Mills.withText("aaaa"), 1, 3, 1);
        repeat(Mills.withText("abcabc"), 3, 3, 3);
        repeat(Mills.withText("abcabc"), 2, 0, 0);
        repeat(Mills.withText("baaa"), 1, 0, 0);
        repeat(Mills.withText("baaaa"), 2, 3, 1);
        SlideMills shorter = Mills.withText("aaaaaaaa");
        shorter.emptyText();
        Mills.addLetters(shorter, "a");
        repeat(shorter, 0, 0, 0);
    }

    private void fromTheShortest() {
        of(0, "A repeat is possible at a place of the text");
        SlideMills two = Mills.withText("abdabc");
        repeat(two, 3, 0, 0);
        two.setShortest(2);
        repeat(two, 3, 2, 3);
        repeat(two, 4, 0, 0);
        SlideMills one = Mills.withText("adac");
        one.setShortest(2);
        repeat(one, 2, 0, 0);
        SlideMills three = Mills.withText("abcdabca");
        repeat(three, 4, 3, 4);
        three.setShortest(4);
        repeat(three, 4, 0, 0);
        SlideMills four = Mills.withText("abcdabcda");
        four.setShortest(4);
        repeat(four, 4, 5, 4);
        repeat(four, 5, 4, 4);
        repeat(four, 6, 0, 0);
        four.setShortest(3);
        repeat(four, 6, 3, 4);
        repeat(four, 7, 0, 0);
        four.setShortest(2);
        repeat(four, 7, 2, 4);
        repeat(four, 8, 0, 0);
    }

    private void toTheLongest() {
        of(0, "A repeat is possible at a place of the text");
        for (int longest = 4; longest <= 9; longest++) {
            SlideMills x = Mills.withText(Mills.times(12, "a"));
            x.setLongest(longest);
            repeat(x, 1, longest, 1);
            repeat(x, 12 - longest, longest, 1);
            repeat(x, 13 - longest, longest - 1, 1);
            SlideMills far = Mills.withText(FULL);
            far.setLongest(longest);
            repeat(far, 4, longest, 4);
            repeat(far, 40 - longest, longest, 4);
        }
    }

    private void atTheEnd() {
        of(0, "A repeat is possible at a place of the text");
        SlideMills x = Mills.withText(FULL);
        repeat(x, 32, 8, 4);
        repeat(x, 33, 7, 4);
        repeat(x, 37, 3, 4);
        repeat(x, 38, 0, 0);
        repeat(x, 39, 0, 0);
        x.setShortest(2);
        repeat(x, 38, 2, 4);
        repeat(x, 39, 0, 0);
        SlideMills ended = Mills.withText("abcab");
        repeat(ended, 3, 0, 0);
        ended.addLetter(2);
        repeat(ended, 3, 3, 3);
        ended.setLetter(5, 3);
        repeat(ended, 3, 0, 0);
    }

    private void severalDistances() {
        of(0, "The longest repeat at a place is the one with the greatest length");
        repeat(Mills.withText("abcdabccabc"), 8, 3, 4);
        repeat(Mills.withText("abcdabcaabcd"), 8, 4, 8);
        repeat(Mills.withText("aaaaaaaa"), 4, 4, 1);
        repeat(Mills.withText("abababab"), 4, 4, 2);
        SlideMills cut = Mills.withText("abcdaabcdbabcda");
        repeat(cut, 10, 5, 10);
        cut.setLongest(4);
        repeat(cut, 10, 4, 5);
        of(42, "Returns the length of the longest repeat at a place, told by looking back", "0 if none is possible");
        due("length", 4, () -> cut.repeatLength(10));
        of(43, "Returns the same, told by the dictionary", "0 if none is possible");
        due("length", 4, () -> cut.repeatLengthByPairs(10));
        of(44, "Returns the distance of the longest repeat at a place", "0 if none is possible");
        due("distance", 5, () -> cut.repeatDistance(10));
        cut.setWindow(4);
        of(42, "0 if none is possible");
        due("length", 0, () -> cut.repeatLength(10));
        of(43, "0 if none is possible");
        due("length", 0, () -> cut.repeatLengthByPairs(10));
        of(44, "0 if none is possible");
        due("distance", 0, () -> cut.repeatDistance(10));
    }

    private void byTheDictionary() {
        of(0, "By the dictionary, a repeat is looked for only at the places at which the pair occurs that begins it");
        SlideMills x = Mills.withText("dabcdabcdabcd");
        x.setLongest(9);
        for (int window = 1; window <= 32; window++) {
            x.setWindow(window);
            for (int place = 0; place < 13; place++) {
                int at = place;
                due("window " + window + ", place " + place, x.repeatLength(place), () -> x.repeatLengthByPairs(at));
            }
        }
        SlideMills last = Mills.withText("dd");
        last.setShortest(2);
        due("no pair at the last place", 0, () -> last.repeatLengthByPairs(1));
        due("one letter", 0, () -> Mills.withText("d").repeatLengthByPairs(0));
        SlideMills packed = Mills.withText("aaaaa");
        due("before another text", 4, () -> packed.repeatLengthByPairs(1));
        packed.setLetter(2, 1);
        due("the dictionary is of now", 0, () -> packed.repeatLengthByPairs(1));
        packed.undo();
        due("also behind undo", 4, () -> packed.repeatLengthByPairs(1));
    }

    private void noSuchPlace() {
        Making[] makings = {SlideMills::new, () -> Mills.withText("abca"), () -> Mills.withText(FULL),
            () -> Mills.after("+abcabc;-;+ab")};
        int[][] places = {{-1, 0, 1, Integer.MIN_VALUE, Integer.MAX_VALUE}, outOf(0, 3), outOf(0, 39), outOf(0, 1)};
        for (int i = 0; i < makings.length; i++) {
            of(42, "- `place`: from 0", "if there is no such place");
            refusedNumbers("place", INDEX, makings[i], SlideMills::repeatLength, places[i]);
            of(43, "- `place`: from 0", "if there is no such place");
            refusedNumbers("place", INDEX, makings[i], SlideMills::repeatLengthByPairs, places[i]);
            of(44, "- `place`: from 0", "if there is no such place");
            refusedNumbers("place", INDEX, makings[i], SlideMills::repeatDistance, places[i]);
        }
    }

    private void eachPair() {
        of(0, "A pair is two letters side by side in the text, told as 4 times the first one, and the second one");
        for (int i = 0; i < 16; i++) {
            int pair = i;
            SlideMills x = Mills.withText(PAIRS[pair]);
            due(PAIRS[pair], pair, x::mostFrequent);
            for (int j = 0; j < 16; j++) {
                int other = j;
                due(PAIRS[pair] + ", pair " + j, pair == j ? 1 : 0, () -> x.pairs(other));
                due(PAIRS[pair] + ", last place of " + j, pair == j ? 0 : -1, () -> x.lastPlaceOf(other));
            }
        }
    }

    private void pairPlaces() {
        of(50, "Returns how often a pair occurs in the text", "Returns how often.", "- `pair`: 0 to 15");
        due("no text", 0, () -> new SlideMills().pairs(0));
        due("one letter", 0, () -> Mills.withText("a").pairs(0));
        due("one over another", 2, () -> Mills.withText("aaa").pairs(0));
        due("39", 39, () -> Mills.withText(Mills.times(40, "d")).pairs(15));
        due("not turned round", 0, () -> Mills.withText("ba").pairs(1));
        due("twice", 2, () -> Mills.withText("abdab").pairs(1));
        of(51, "Returns the last place at which a pair occurs", "Returns the place; -1 if it does not",
                "- `pair`: 0 to 15");
        due("no text", -1, () -> new SlideMills().lastPlaceOf(0));
        due("one letter", -1, () -> Mills.withText("d").lastPlaceOf(15));
        due("one over another", 1, () -> Mills.withText("aaa").lastPlaceOf(0));
        due("of two", 3, () -> Mills.withText("abdab").lastPlaceOf(1));
        of(0, "It occurs at the place of its first letter");
        due("the first place", 0, () -> Mills.withText("abd").lastPlaceOf(1));
        due("the last place", 38, () -> Mills.withText(FULL).lastPlaceOf(11));
        due("the last place of many", 38, () -> Mills.withText(Mills.times(40, "a")).lastPlaceOf(0));
        SlideMills x = Mills.withText("cdcd");
        due("before", 2, () -> x.pairs(11));
        x.emptyText();
        due("behind emptying", 0, () -> x.pairs(11));
        due("behind emptying", -1, () -> x.lastPlaceOf(11));
    }

    private void noSuchPair() {
        Making[] makings = {SlideMills::new, () -> Mills.withText("abca"), () -> Mills.withText(FULL)};
        for (Making making : makings) {
            of(50, "- `pair`: 0 to 15", "if pair is out of range");
            refusedNumbers("pair", ARGUMENT, making, SlideMills::pairs, outOf(0, 15));
            of(51, "- `pair`: 0 to 15", "if pair is out of range");
            refusedNumbers("pair", ARGUMENT, making, SlideMills::lastPlaceOf, outOf(0, 15));
        }
    }

    private void mostFrequent() {
        of(52, "Returns the pair that occurs most often, of several the lowest", "Returns the pair.");
        due("of two letters", 15, Mills.withText("dd")::mostFrequent);
        due("of two, the lower comes later", 1, Mills.withText("dab")::mostFrequent);
        due("of two, the lower comes first", 1, Mills.withText("abd")::mostFrequent);
        due("the highest", 15, Mills.withText("abddd")::mostFrequent);
        due("the lowest", 0, Mills.withText("ddaaa")::mostFrequent);
        due("of a full text", 1, Mills.withText(FULL)::mostFrequent);
        due("of a full text of one letter", 15, Mills.withText(Mills.times(40, "d"))::mostFrequent);
        of(52, "if the text has fewer than 2 letters");
        refused("no letter", STATE, SlideMills::new, SlideMills::mostFrequent);
        refused("one letter", STATE, () -> Mills.withText("a"), SlideMills::mostFrequent);
        refused("emptied", STATE, () -> Mills.after("+abab;-;+b"), SlideMills::mostFrequent);
    }
}
