/** Packing and what it costs: promises 10 and 45 to 49. */
final class PackEdges extends Edges {
    private static final String FULL = Mills.times(10, "abcd");

    PackEdges(Sentences doc) {
        super(doc);
    }

    void all() {
        emptyText();
        oneLetter();
        fullText();
        noSuchWay();
        greedily();
        lazily();
        cheaply();
        cheapTies();
        pricesAtTheEdge();
        oneWayByAnother();
        whatStays();
        leastCosts();
        otherWindows();
    }

    private void packs(SlideMills x, int way, String sack) {
        String what = Mills.textOf(x) + " by way " + way;
        due(what + ", cost", costOf(x, sack), () -> x.costBy(way));
        due(what + ", how many", tokensIn(sack), () -> x.tokensBy(way));
        due(what + ", packed", tokensIn(sack), () -> x.pack(way));
        due(what, sack, () -> Mills.sackOf(x));
        due(what + ", sack's cost", costOf(x, sack), x::sackCost);
        due(what + ", for the text", true, x::isForText);
    }

    private static int tokensIn(String sack) {
        return sack.replaceAll("<[^>]*>", "r").length();
    }

    private static int costOf(SlideMills x, String sack) {
        int tokens = tokensIn(sack);
        int letters = sack.replaceAll("<[^>]*>", "").length();
        int repeatPrice = x.setRepeatPrice(1);
        int letterPrice = x.setLetterPrice(1);
        x.undo();
        x.undo();
        return letters * letterPrice + (tokens - letters) * repeatPrice;
    }

    private void emptyText() {
        for (int way = 0; way <= 2; way++) {
            int by = way;
            of(10, "- `way`: 0 to 2", "Returns how many tokens the sack has then");
            packs(new SlideMills(), way, "");
            due("in place of some tokens", 0, () -> Mills.after("la;r39,40").pack(by));
            of(45, "- `way`: 0 to 2", "Returns the cost.");
            due("empty", 0, () -> new SlideMills().costBy(by));
            of(46, "- `way`: 0 to 2", "Returns how many.");
            due("empty", 0, () -> new SlideMills().tokensBy(by));
        }
        of(47, "Returns the least cost of a row of letters and possible repeats that stands for the text");
        due("empty", 0, new SlideMills()::leastCost);
        due("emptied", 0, Mills.after("+abca;-")::leastCost);
        of(48, "Returns the same, told from its beginning");
        due("empty", 0, new SlideMills()::leastCostFromBeginning);
        due("emptied", 0, Mills.after("+abca;-")::leastCostFromBeginning);
        of(49, "- `places`: 1 to 32", "Returns the cost.");
        due("empty", 0, () -> new SlideMills().leastCostWith(1));
        due("empty", 0, () -> new SlideMills().leastCostWith(32));
    }

    private void oneLetter() {
        of(0, "To pack means to make the sack a row of tokens that stand for the text, from its beginning on");
        for (int way = 0; way <= 2; way++) {
            packs(Mills.withText("d"), way, "d");
            packs(Mills.withText("dd"), way, "dd");
            packs(Mills.withText("ddd"), way, "ddd");
            packs(Mills.withText("dddd"), way, "d<1,3>");
        }
    }

    private void fullText() {
        of(10, "Returns how many tokens the sack has then");
        for (int way = 0; way <= 2; way++) {
            SlideMills x = Mills.withText(FULL);
            packs(x, way, "abcd<4,8><4,8><4,8><4,8><4,4>");
            x.setWindow(3);
            packs(x, way, FULL);
            packs(Mills.withText(Mills.times(40, "a")), way, "a<1,8><1,8><1,8><1,8><1,7>");
        }
    }

    private void noSuchWay() {
        Making[] makings = {SlideMills::new, () -> Mills.after("+abcabc;la;r1,1"), () -> Mills.withText(FULL)};
        for (Making making : makings) {
            of(10, "if way is out of range");
            refusedNumbers("way", ARGUMENT, making, SlideMills::pack, outOf(0, 2));
            of(45, "if way is out of range");
            refusedNumbers("way", ARGUMENT, making, SlideMills::costBy, outOf(0, 2));
            of(46, "if way is out of range");
            refusedNumbers("way", ARGUMENT, making, SlideMills::tokensBy, outOf(0, 2));
            of(49, "if places is out of range");
            refusedNumbers("window", ARGUMENT, making, SlideMills::leastCostWith, outOf(1, 32));
        }
    }

    private void greedily() {
        of(0, "0 (greedy): at a place the longest repeat, if one is possible, otherwise the letter; then behind it");
        packs(Mills.withText("abcabcabcdabca"), 0, "abc<3,6>d<7,4>");
        packs(Mills.withText("aaabaaaaaba"), 0, "aaab<4,3><6,4>");
        packs(Mills.withText("bcdcdabcbcdabc"), 0, "bcdcdabc<8,3><6,3>");
        packs(Mills.withText("abcab"), 0, "abcab");
        packs(Mills.withText("abcabc"), 0, "abc<3,3>");
        packs(Mills.withText("abcdabccabc"), 0, "abcd<4,3>c<4,3>");
        packs(Mills.withText("dbcadbcbbbdbca"), 0, "dbca<4,3>bbb<10,4>");
    }

    private void lazily() {
        of(0, "1 (lazy): as by the way 0; but if at the next place a repeat is possible that is longer");
        packs(Mills.withText("bcdcdabcbcdabc"), 1, "bcdcdabcb<6,5>");
        // At place 4 stands 3 long, at 5 stands 4 long, at 6 stands 5 long.
        packs(Mills.withText("aaabaaaaaba"), 1, "aaabaa<6,5>");
        // At place 3 stands 3 long, at 4 none, at 5 stands 4 long: only the next place counts.
        packs(Mills.withText("baabaaabab"), 1, "baa<3,3><4,3>b");
        // At place 1 and at place 2 stand 8 long.
        packs(Mills.withText(Mills.times(12, "a")), 1, "a<1,8><1,3>");
        packs(Mills.withText("abcabc"), 1, "abc<3,3>");
        packs(Mills.withText("aaaa"), 1, "a<1,3>");
        packs(Mills.withText("bbbabbbbbabab"), 1, "bbbabb<6,5>ab");
        SlideMills longest = Mills.withText("aaabaaaaaba");
        longest.setLongest(4);
        // No longer than the 4 at place 5 is possible at place 6.
        packs(longest, 1, "aaaba<1,4>ba");
        SlideMills shortest = Mills.withText("abcdabdabcd");
        shortest.setShortest(2);
        packs(shortest, 1, "abcd<4,2>d<7,4>");
    }

    private void cheaply() {
        of(0, "2 (cheap): so that the prices of all tokens, which are letters and possible repeats, are the least");
        packs(Mills.withText("bbbabbbbabab"), 2, "bbbab<5,4><2,3>");
        packs(Mills.withText("bbbabbbbbabab"), 2, "bbba<4,3><6,3><2,3>");
        due("dearer by way 0", 28, () -> Mills.withText("bbbabbbbabab").costBy(0));
        due("dearer by way 1", 26, () -> Mills.withText("bbbabbbbabab").costBy(1));
        due("by way 2", 25, () -> Mills.withText("bbbabbbbabab").costBy(2));
        due("dearest by way 1", 29, () -> Mills.withText("bbbabbbbbabab").costBy(1));
        due("by way 0", 28, () -> Mills.withText("bbbabbbbbabab").costBy(0));
        due("by way 2", 27, () -> Mills.withText("bbbabbbbbabab").costBy(2));
    }

    private void cheapTies() {
        of(0, "Of several such rows that is meant which has, at each place, the longest token");
        SlideMills x = Mills.withText(Mills.times(12, "a"));
        x.setLongest(4);
        packs(x, 2, "a<1,4><1,4><1,3>");
        x.setShortest(4);
        packs(x, 2, "a<1,4><1,4>aaa");
        SlideMills near = Mills.withText("bbccbbcabbcccc");
        packs(near, 2, "bbcc<4,3>a<4,3><1,3>");
        packs(near, 0, "bbcc<4,3>a<8,4>cc");
        packs(Mills.withText("abcdabccabc"), 2, "abcd<4,3>c<4,3>");
    }

    private void pricesAtTheEdge() {
        of(0, "Of several such rows that is meant which has, at each place, the longest token");
        SlideMills x = Mills.withText("abcabc");
        x.setRepeatPrice(9);
        packs(x, 2, "abc<3,3>");
        x.setRepeatPrice(10);
        packs(x, 2, "abcabc");
        packs(x, 0, "abc<3,3>");
        packs(x, 1, "abc<3,3>");
        x.setRepeatPrice(8);
        packs(x, 2, "abc<3,3>");
        SlideMills two = Mills.withText("abab");
        two.setShortest(2);
        two.setLetterPrice(1);
        two.setRepeatPrice(2);
        packs(two, 2, "ab<2,2>");
        two.setRepeatPrice(3);
        packs(two, 2, "abab");
        two.setRepeatPrice(20);
        packs(two, 2, "abab");
        packs(two, 0, "ab<2,2>");
        two.setLetterPrice(9);
        packs(two, 2, "abab");
        two.setRepeatPrice(18);
        packs(two, 2, "ab<2,2>");
    }

    /** No answer hangs on the way that was asked for before. */
    private void oneWayByAnother() {
        int[] costs = {14, 14, 13};
        int[] tokens = {6, 6, 9};
        for (int way = 0; way <= 2; way++) {
            int by = way;
            of(45, "Returns the prices of all tokens that packing by a way would make, together");
            due("alone, way " + by, costs[by], () -> cheapLetters().costBy(by));
            of(46, "Returns the number of tokens that packing by a way would make");
            due("alone, way " + by, tokens[by], () -> cheapLetters().tokensBy(by));
            for (int before = 0; before <= 2; before++) {
                SlideMills x = cheapLetters();
                x.costBy(before);
                due("way " + by + " behind the cost by " + before, tokens[by], () -> x.tokensBy(by));
                x.pack(before);
                due("way " + by + " behind packing by " + before, tokens[by], () -> x.tokensBy(by));
                due("packed by " + before, tokens[before], x::tokens);
            }
        }
    }

    private static SlideMills cheapLetters() {
        SlideMills x = Mills.withText("abcabcabcdabca");
        x.setLetterPrice(1);
        return x;
    }

    private void whatStays() {
        of(10, "Packs the text; it stays");
        SlideMills x = Mills.after("+abcabcabcdabca;p0");
        due("text", "abcabcabcdabca", () -> Mills.textOf(x));
        due("packed again", 6, () -> x.pack(0));
        SlideMills y = Mills.after("+abcabc;ld;r39,40");
        long before = y.digest();
        of(45, "Returns the prices of all tokens that packing by a way would make, together");
        due("cost", 14, () -> y.costBy(0));
        due("nothing is packed", before, y::digest);
        of(46, "Returns the number of tokens that packing by a way would make");
        due("tokens", 4, () -> y.tokensBy(2));
        due("nothing is packed", before, y::digest);
        of(49, "Returns the least cost that there would be with another window");
        due("cost", 18, () -> y.leastCostWith(2));
        due("the window stays", before, y::digest);
    }

    private void leastCosts() {
        String[] texts = {"a", "ab", "aaaa", "abcabcabcdabca", "bbbabbbbabab", "bbbabbbbbabab", FULL,
            Mills.times(40, "a")};
        int[] leasts = {3, 6, 8, 22, 25, 27, 12 + 25, 3 + 25};
        for (int i = 0; i < texts.length; i++) {
            SlideMills x = Mills.withText(texts[i]);
            of(47, "told from its end");
            due(texts[i], leasts[i], x::leastCost);
            of(48, "Returns the same, told from its beginning");
            due(texts[i], leasts[i], x::leastCostFromBeginning);
            of(49, "Returns the least cost that there would be with another window");
            due(texts[i], leasts[i], () -> x.leastCostWith(16));
        }
        SlideMills dear = Mills.withText(FULL);
        dear.setWindow(3);
        dear.setLetterPrice(9);
        of(47, "told from its end");
        due("the most", 360, dear::leastCost);
        of(48, "Returns the same, told from its beginning");
        due("the most", 360, dear::leastCostFromBeginning);
        dear.setLetterPrice(1);
        dear.setRepeatPrice(1);
        dear.setWindow(32);
        dear.setLongest(9);
        of(47, "told from its end");
        due("cheap", 4 + 4, dear::leastCost);
        of(48, "Returns the same, told from its beginning");
        due("cheap", 4 + 4, dear::leastCostFromBeginning);
    }

    private void otherWindows() {
        of(49, "Returns the least cost that there would be with another window", "- `places`: 1 to 32");
        for (int distance = 4; distance <= 32; distance++) {
            SlideMills x = Mills.withText("abc" + letters(distance - 3) + "abc");
            int far = distance;
            int all = 3 * (far + 3);
            x.setRepeatPrice(8);
            x.setShortest(3);
            x.setWindow(far == 16 ? 1 : 16);
            int without = x.leastCostWith(far - 1);
            due("at the window " + far, without - 1, () -> x.leastCostWith(far));
            due("at the widest", without - 1, () -> x.leastCostWith(32));
            due("no more than letters", true, () -> without <= all);
            x.setWindow(far);
            due("as by its own window", without - 1, x::leastCost);
            x.setWindow(far - 1);
            due("as by its own window", without, x::leastCost);
        }
        SlideMills one = Mills.withText("aaaa");
        one.setWindow(32);
        due("window 1", 8, () -> one.leastCostWith(1));
        SlideMills two = Mills.withText("ababa");
        due("window 1", 15, () -> two.leastCostWith(1));
        due("window 2", 11, () -> two.leastCostWith(2));
        due("window 32", 11, () -> two.leastCostWith(32));
        of(49, "if places is out of range");
        refusedNumbers("window", ARGUMENT, () -> Mills.withText("ababa"), SlideMills::leastCostWith, 0, 33);
    }

    private static String letters(int count) {
        return Mills.times(count, "d");
    }
}
