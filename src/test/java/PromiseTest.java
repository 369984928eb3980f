import java.util.concurrent.Callable;

/** Each promise of the document, by hand: ordinary inputs, edges, wrong inputs. */
public final class PromiseTest {
    private static final String ARGUMENT = "IllegalArgumentException";
    private static final String STATE = "IllegalStateException";
    private static final String INDEX = "IndexOutOfBoundsException";
    private static final int[] FAR_OUT = {Integer.MIN_VALUE, -1, Integer.MAX_VALUE};

    private static final Checks CHECKS = new Checks();
    private static int promise = 0;

    public static void main(String[] args) {
        newObject();
        theText();
        windowSetting();
        repeatSettings();
        priceSettings();
        packing();
        packingTies();
        unpackingPossible();
        tokensByHand();
        takingTokens();
        theBuffer();
        syntaxErrors();
        longestTexts();
        works();
        stops();
        stopsAreStates();
        undoing();
        undoingEachCall();
        thrownCallsSaveNothing();
        snapshots();
        looksAtTheText();
        looksAtTheSack();
        sackSums();
        wrongTokens();
        standsForTheText();
        repeats();
        repeatEdges();
        costs();
        costEdges();
        pairs();
        shares();
        digests();
        CHECKS.end();
    }

    private static void due(String what, Object due, Callable<?> call) {
        CHECKS.same("promise " + promise + ": " + what, due, Checks.answer(call));
    }

    private static void newObject() {
        promise = 1;
        SlideMills x = new SlideMills();
        due("text", 0, x::textLength);
        due("sack", 0, x::tokens);
        due("window", 16, x::window);
        due("shortest", 3, x::shortest);
        due("longest", 8, x::longest);
        due("letter price", 3, () -> x.setLetterPrice(1));
        due("repeat price", 5, () -> x.setRepeatPrice(1));
        due("buffer", 0, new SlideMills()::clearBuffer);
        due("saved", 0, new SlideMills()::savedStates);
        due("snapshot", STATE, new SlideMills()::restore);
        due("stop", false, new SlideMills()::hasStopped);
    }

    private static void theText() {
        promise = 2;
        SlideMills x = new SlideMills();
        due("first", 1, () -> x.addLetter(0));
        due("second", 2, () -> x.addLetter(3));
        due("text", "ad", () -> Mills.textOf(x));
        due("4", ARGUMENT, () -> x.addLetter(4));
        SlideMills full = Mills.withText(Mills.times(40, "b"));
        due("text is full", STATE, () -> full.addLetter(0));
        due("letter before fullness", ARGUMENT, () -> full.addLetter(4));
        for (int far : FAR_OUT) {
            due("letter " + far, ARGUMENT, () -> x.addLetter(far));
        }
        due("text after", "ad", () -> Mills.textOf(x));
        promise = 3;
        due("replace the second", 3, () -> x.setLetter(1, 2));
        due("replace the first", 0, () -> x.setLetter(0, 1));
        due("text", "bc", () -> Mills.textOf(x));
        due("letter 4", ARGUMENT, () -> x.setLetter(1, 4));
        due("letter -1", ARGUMENT, () -> x.setLetter(0, -1));
        due("place 2", INDEX, () -> x.setLetter(2, 0));
        due("place before letter", INDEX, () -> x.setLetter(2, 4));
        for (int far : FAR_OUT) {
            due("place " + far, INDEX, () -> x.setLetter(far, 0));
        }
        due("last of a full text", 1, () -> full.setLetter(39, 0));
        promise = 4;
        due("empty", 2, x::emptyText);
        due("empty again", 0, x::emptyText);
        due("full", 40, full::emptyText);
        due("text", "", () -> Mills.textOf(full));
        due("one after", 1, () -> full.addLetter(3));
    }

    private static void windowSetting() {
        promise = 5;
        SlideMills x = new SlideMills();
        due("32", 16, () -> x.setWindow(32));
        due("1", 32, () -> x.setWindow(1));
        due("0", ARGUMENT, () -> x.setWindow(0));
        due("33", ARGUMENT, () -> x.setWindow(33));
        due("now", 1, x::window);
        for (int far : FAR_OUT) {
            due("window " + far, ARGUMENT, () -> x.setWindow(far));
        }
    }

    private static void repeatSettings() {
        promise = 6;
        SlideMills x = new SlideMills();
        due("2", 3, () -> x.setShortest(2));
        due("4", 2, () -> x.setShortest(4));
        due("1", ARGUMENT, () -> x.setShortest(1));
        due("5", ARGUMENT, () -> x.setShortest(5));
        due("now", 4, x::shortest);
        promise = 7;
        due("4", 8, () -> x.setLongest(4));
        due("9", 4, () -> x.setLongest(9));
        due("3", ARGUMENT, () -> x.setLongest(3));
        due("10", ARGUMENT, () -> x.setLongest(10));
        due("now", 9, x::longest);
        for (int far : FAR_OUT) {
            due("longest " + far, ARGUMENT, () -> x.setLongest(far));
            due("shortest " + far, ARGUMENT, () -> x.setShortest(far));
        }
    }

    private static void priceSettings() {
        promise = 8;
        SlideMills x = new SlideMills();
        due("1", 3, () -> x.setLetterPrice(1));
        due("9", 1, () -> x.setLetterPrice(9));
        due("0", ARGUMENT, () -> x.setLetterPrice(0));
        due("10", ARGUMENT, () -> x.setLetterPrice(10));
        due("now", 9, () -> x.setLetterPrice(9));
        promise = 9;
        due("1", 5, () -> x.setRepeatPrice(1));
        due("20", 1, () -> x.setRepeatPrice(20));
        due("0", ARGUMENT, () -> x.setRepeatPrice(0));
        due("21", ARGUMENT, () -> x.setRepeatPrice(21));
        due("now", 20, () -> x.setRepeatPrice(20));
        for (int far : FAR_OUT) {
            due("letter price " + far, ARGUMENT, () -> x.setLetterPrice(far));
            due("repeat price " + far, ARGUMENT, () -> x.setRepeatPrice(far));
        }
    }

    private static void packing() {
        promise = 10;
        SlideMills x = Mills.withText("abcabcabcdabca");
        due("greedy", 6, () -> x.pack(0));
        due("greedy sack", "abc<3,6>d<7,4>", () -> Mills.sackOf(x));
        due("text stays", "abcabcabcdabca", () -> Mills.textOf(x));
        due("repeat over itself", 2, () -> Mills.withText("aaaaaa").pack(0));
        // At place 7 stands "bcd", at place 8 the longer "cdabc": lazily the letter comes first.
        SlideMills y = Mills.withText("bcdcdabcbcdabc");
        due("greedy takes the first", "bcdcdabc<8,3><6,3>", () -> Mills.packed(y, 0));
        due("lazy waits", "bcdcdabcb<6,5>", () -> Mills.packed(y, 1));
        due("cheap", "bcdcdabcb<6,5>", () -> Mills.packed(y, 2));
        due("lazy does not wait for the same", "a<1,8><1,3>",
                () -> Mills.packed(Mills.withText(Mills.times(12, "a")), 1));
        due("3", ARGUMENT, () -> y.pack(3));
        for (int far : FAR_OUT) {
            due("way " + far, ARGUMENT, () -> y.pack(far));
        }
        due("sack after", "bcdcdabcb<6,5>", () -> Mills.sackOf(y));
        SlideMills empty = new SlideMills();
        empty.addToken(0);
        due("empty text", 0, () -> empty.pack(2));
        SlideMills narrow = Mills.withText(Mills.times(10, "abcd"));
        narrow.setWindow(3);
        due("longest row", 40, () -> narrow.pack(2));
    }

    private static void packingTies() {
        promise = 10;
        SlideMills x = Mills.withText("aaaaaaaaaaaa");
        x.setLongest(4);
        // 11 letters behind the first: 4+4+3, the longest ones first, at the least distance.
        due("longest first", "a<1,4><1,4><1,3>", () -> Mills.packed(x, 2));
        x.setShortest(4);
        // 11 = 4+4+3 letters, of which one row has its repeats first.
        due("letters last", "a<1,4><1,4>aaa", () -> Mills.packed(x, 2));
        SlideMills dear = Mills.withText("abcabc");
        dear.setRepeatPrice(9);
        due("equal prices: the repeat", "abc<3,3>", () -> Mills.packed(dear, 2));
        dear.setRepeatPrice(10);
        due("dearer: the letters", "abcabc", () -> Mills.packed(dear, 2));
        due("greedy does not care", "abc<3,3>", () -> Mills.packed(dear, 0));
        SlideMills near = Mills.withText("dbcadbcbbbdbca");
        due("the longest, not the nearest", "dbca<4,3>bbb<10,4>", () -> Mills.packed(near, 0));
        // At place 8 the longest is bbcc, 8 back; the cheaper bbc stands 8 back too, but also 4 back.
        SlideMills shortened = Mills.withText("bbccbbcabbcccc");
        due("greedily long", "bbcc<4,3>a<8,4>cc", () -> Mills.packed(shortened, 0));
        due("cheaply short and near", "bbcc<4,3>a<4,3><1,3>", () -> Mills.packed(shortened, 2));
    }

    private static void unpackingPossible() {
        promise = 11;
        SlideMills x = new SlideMills();
        x.addToken(1);
        x.addToken(2);
        x.addRepeat(2, 5);
        due("overlapping", 7, x::unpack);
        due("text", "bcbcbcb", () -> Mills.textOf(x));
        due("sack stays", "bc<2,5>", () -> Mills.sackOf(x));
        x.addRepeat(7, 33);
        due("40 letters", 40, x::unpack);
        x.addToken(0);
        due("41 letters", STATE, x::unpack);
        due("text then", 40, x::textLength);
        x.emptySack();
        due("empty sack", 0, x::unpack);
        due("text empty", 0, x::textLength);
        x.addRepeat(1, 1);
        due("too far", STATE, x::unpack);
        due("saved", 6, x::savedStates);
    }

    private static void tokensByHand() {
        promise = 12;
        SlideMills x = new SlideMills();
        due("first", 1, () -> x.addToken(0));
        due("second", 2, () -> x.addToken(3));
        due("sack", "ad", () -> Mills.sackOf(x));
        due("4", ARGUMENT, () -> x.addToken(4));
        for (int i = 2; i < 40; i++) {
            x.addToken(1);
        }
        due("full", STATE, () -> x.addToken(0));
        due("letter before fullness", ARGUMENT, () -> x.addToken(-1));
        promise = 13;
        due("full", STATE, () -> x.addRepeat(1, 1));
        due("distance before fullness", ARGUMENT, () -> x.addRepeat(0, 1));
        due("length before fullness", ARGUMENT, () -> x.addRepeat(1, 41));
        SlideMills y = new SlideMills();
        due("least", 1, () -> y.addRepeat(1, 1));
        due("most", 2, () -> y.addRepeat(39, 40));
        due("sack", "<1,1><39,40>", () -> Mills.sackOf(y));
        due("distance 40", ARGUMENT, () -> y.addRepeat(40, 1));
        due("length 0", ARGUMENT, () -> y.addRepeat(1, 0));
        due("length 41", ARGUMENT, () -> y.addRepeat(1, 41));
        for (int far : FAR_OUT) {
            due("letter " + far, ARGUMENT, () -> y.addToken(far));
            due("distance " + far, ARGUMENT, () -> y.addRepeat(far, 1));
            due("length " + far, ARGUMENT, () -> y.addRepeat(1, far));
        }
        due("sack after", 2, y::tokens);
    }

    private static void takingTokens() {
        promise = 14;
        SlideMills x = new SlideMills();
        due("empty", STATE, x::takeLast);
        due("nothing saved", 0, x::savedStates);
        x.addToken(2);
        x.addRepeat(1, 3);
        due("repeat", 1, x::takeLast);
        due("left", "c", () -> Mills.sackOf(x));
        due("letter", 0, x::takeLast);
        due("empty again", STATE, x::takeLast);
        promise = 15;
        due("empty", 0, x::emptySack);
        x.addToken(2);
        x.addRepeat(1, 3);
        due("two", 2, x::emptySack);
        due("then", 0, x::tokens);
        due("one after", 1, () -> x.addToken(1));
        due("that one", "b", () -> Mills.sackOf(x));
    }

    private static void theBuffer() {
        promise = 16;
        SlideMills x = new SlideMills();
        due("33", 1, () -> x.append(33));
        due("126", 2, () -> x.append(126));
        due("32", ARGUMENT, () -> x.append(32));
        due("127", ARGUMENT, () -> x.append(127));
        for (int far : FAR_OUT) {
            due("code " + far, ARGUMENT, () -> x.append(far));
        }
        for (int i = 2; i < 59; i++) {
            x.append(43);
        }
        due("60", 60, () -> x.append(43));
        due("61", STATE, () -> x.append(43));
        due("code before fullness", ARGUMENT, () -> x.append(32));
        due("nothing saved", 0, x::savedStates);
        promise = 17;
        due("full", 60, x::clearBuffer);
        due("empty", 0, x::clearBuffer);
        due("one after", 1, () -> x.append(43));
    }

    private static void syntaxErrors() {
        promise = 18;
        String[] whole = {"", "+a", "+abcd", "-", "p0", "p1", "p2", "u", "e", "la", "ld", "r1,1",
            "r39,40", "r9,9", "r10,10", "r3,4", "r30,39", "u;u", "+a;-;p0;u;e;lb;r1,2",
            "+", "p", "l", "r", "r1", "r39", "r1,", "r3,4", "u;", "u;r2"};
        for (String text : whole) {
            due("no error in " + text, text.length(), () -> Mills.errorIn(text));
        }
        String[] broken = {"x", "A", ";", "a", "1", "+;", "+e", "+aA", "-a", "-;;", "p3", "p;", "p00",
            "ua", "ee", "l;", "lab", "le", "r0", "ra", "r,", "r40", "r4:", "r:", "r3:",
            "r1,:", "r1,3:", "r/", "r1/", "p/", "la`", "l`", "+a`", "r391", "r100", "r1;",
            "r1a", "r1,0", "r1,a", "r1,41", "r1,49", "r1,50", "r1,99", "r1,100", "r1,400", "r1,1a",
            "r1,4;;", "u;x", "+ab1", "+ab;;"};
        for (String text : broken) {
            due("last is wrong in " + text, text.length() - 1, () -> Mills.errorIn(text));
        }
        due("the first one counts", 1, () -> Mills.errorIn("uu;;x"));
        due("what comes behind an error", 0, () -> Mills.errorIn("xu"));
    }

    private static void longestTexts() {
        promise = 18;
        due("60 characters and no room for more", 60, () -> Mills.errorIn(Mills.times(29, "u;") + "r1"));
        SlideMills x = new SlideMills();
        Mills.type(x, Mills.times(30, "u;"));
        due("no part behind", 60, x::firstError);
        promise = 19;
        due("not complete", ARGUMENT, x::work);
        SlideMills y = new SlideMills();
        Mills.type(y, Mills.times(29, "u;") + "p1");
        due("thirty parts", 30, y::work);
    }

    private static void works() {
        promise = 19;
        SlideMills x = new SlideMills();
        due("empty buffer", ARGUMENT, x::work);
        due("nothing saved", 0, x::savedStates);
        due("letters", 1, () -> Mills.doWorks(x, "+abcd"));
        due("text", "abcd", () -> Mills.textOf(x));
        due("more letters", 2, () -> Mills.doWorks(x, "+ab;+cd"));
        due("text", "abcdabcd", () -> Mills.textOf(x));
        due("each one saved", 2, x::savedStates);
        due("buffer cleared", 0, x::clearBuffer);
        due("pack", 1, () -> Mills.doWorks(x, "p0"));
        due("sack", "abcd<4,4>", () -> Mills.sackOf(x));
        due("tokens", 2, () -> Mills.doWorks(x, "ld;r12,5"));
        due("sack", "abcd<4,4>d<12,5>", () -> Mills.sackOf(x));
        due("empty and add", 3, () -> Mills.doWorks(x, "e;la;r1,13"));
        due("sack", "a<1,13>", () -> Mills.sackOf(x));
        due("unpack", 1, () -> Mills.doWorks(x, "u"));
        due("text", Mills.times(14, "a"), () -> Mills.textOf(x));
        due("empty text", 1, () -> Mills.doWorks(x, "-"));
        due("text", "", () -> Mills.textOf(x));
        due("ways", 3, () -> Mills.doWorks(x, "+bcdcdabcbcdabc;p0;p1"));
        due("sack", "bcdcdabcb<6,5>", () -> Mills.sackOf(x));
        for (String text : new String[] {"+", "p", "l", "r", "r3", "r39", "r1,", "u;", "x", "uu", "u;x"}) {
            x.clearBuffer();
            Mills.type(x, text);
            due("not complete: " + text, ARGUMENT, x::work);
            due("buffer stays", text.length(), x::clearBuffer);
        }
        for (String text : new String[] {"r1,1", "r1,4", "r1,40", "r39,7"}) {
            due("complete: " + text, 1, () -> Mills.doWorks(x, text));
        }
    }

    private static void stops() {
        promise = 20;
        SlideMills x = new SlideMills();
        due("at first", false, x::hasStopped);
        Mills.doWorks(x, "+a;-");
        due("all done", false, x::hasStopped);
        promise = 21;
        due("no stop", STATE, x::stoppedPart);
        promise = 22;
        due("no stop", STATE, x::whyStopped);
        expectStop("la;r2,3;u;+a", 2, 1, "");
        expectStop("+a;la;r1,40;u", 3, 2, "a");
        expectStop("r1,1;u;-", 1, 1, "");
        expectStop("+" + Mills.times(38, "a") + ";+bc;+a;-", 2, 3, Mills.times(38, "a") + "bc");
        expectStop("+" + Mills.times(38, "a") + ";+bcd;-", 1, 3, Mills.times(38, "a"));
        expectStop("+" + Mills.times(41, "a"), 0, 3, "");
        SlideMills full = new SlideMills();
        for (int i = 0; i < 39; i++) {
            full.addToken(0);
        }
        promise = 22;
        due("the last token", 1, () -> Mills.doWorks(full, "la"));
        due("no stop yet", false, full::hasStopped);
        due("one too many", 0, () -> Mills.doWorks(full, "la;e"));
        due("sack full", 4, full::whyStopped);
        due("nothing done behind", 40, full::tokens);
        due("a repeat too many", 1, () -> Mills.doWorks(full, "u;r1,1;e"));
        due("sack full", 4, full::whyStopped);
        promise = 21;
        due("part", 1, full::stoppedPart);
        promise = 20;
        due("wrong works leave the stop", ARGUMENT, () -> Mills.doWorks(full, "x"));
        due("still", true, full::hasStopped);
        full.clearBuffer();
        due("other calls leave the stop", 40, full::emptySack);
        due("still", true, full::hasStopped);
        due("works that go through", 1, () -> Mills.doWorks(full, "e"));
        due("no more", false, full::hasStopped);
    }

    private static void expectStop(String works, int part, int reason, String text) {
        SlideMills x = new SlideMills();
        promise = 19;
        due(works, part, () -> Mills.doWorks(x, works));
        due(works + " buffer", 0, x::clearBuffer);
        due(works + " saved", 1, x::savedStates);
        due(works + " text", text, () -> Mills.textOf(x));
        promise = 20;
        due(works, true, x::hasStopped);
        promise = 21;
        due(works, part, x::stoppedPart);
        promise = 22;
        due(works, reason, x::whyStopped);
    }

    private static void stopsAreStates() {
        promise = 23;
        SlideMills x = new SlideMills();
        Mills.doWorks(x, "r1,1;u");
        Mills.doWorks(x, "u;u");
        due("stopped at the first", 0, x::stoppedPart);
        due("undo", 1, x::undo);
        due("the stop before", 1, x::stoppedPart);
        due("undo", 0, x::undo);
        due("no stop", false, x::hasStopped);
        promise = 25;
        Mills.doWorks(x, "r1,1;u");
        x.keep();
        Mills.doWorks(x, "e");
        due("no stop", false, x::hasStopped);
        due("restore", 0, x::restore);
        due("the stop of the snapshot", 1, x::whyStopped);
    }

    private static void undoing() {
        promise = 23;
        SlideMills x = new SlideMills();
        due("none", STATE, x::undo);
        for (int i = 0; i < 8; i++) {
            x.addLetter(i % 4);
        }
        promise = 26;
        due("six at most", 6, x::savedStates);
        promise = 23;
        for (int left = 5; left >= 0; left--) {
            int due = left;
            due("undo", due, x::undo);
            due("text", "abcdabcd".substring(0, 2 + due), () -> Mills.textOf(x));
        }
        due("none left", STATE, x::undo);
        Mills.type(x, "+ab");
        x.addLetter(3);
        x.append('c');
        x.keep();
        due("undo", 0, x::undo);
        due("buffer stays", 4, x::clearBuffer);
        due("snapshot stays", 3, x::restore);
        promise = 26;
        due("restore is saved", 1, x::savedStates);
    }

    private interface Change {
        void on(SlideMills x);
    }

    private static void undoingEachCall() {
        Change[] changes = {x -> x.addLetter(1), x -> x.setLetter(0, 3), SlideMills::emptyText,
            x -> x.setWindow(2), x -> x.setShortest(4), x -> x.setLongest(5), x -> x.setLetterPrice(7),
            x -> x.setRepeatPrice(13), x -> x.pack(1), SlideMills::unpack, x -> x.addToken(2),
            x -> x.addRepeat(3, 4), SlideMills::takeLast, SlideMills::emptySack,
            x -> Mills.doWorks(x, "+ab;-;e;u;ld;r1,2;p0"), x -> Mills.doWorks(x, "r1,2;r39,1;u"), SlideMills::restore};
        promise = 23;
        for (int i = 0; i < changes.length; i++) {
            SlideMills x = Mills.withText("abcabc");
            x.addToken(1);
            x.addRepeat(1, 4);
            x.keep();
            for (int undos = x.savedStates(); undos > 0; undos--) {
                x.undo();
            }
            x.restore();
            x.undo();
            x.addToken(3);
            long before = x.digest();
            int saved = x.savedStates();
            changes[i].on(x);
            due("change " + i + " saves", saved + 1, x::savedStates);
            due("change " + i + " undone", saved, x::undo);
            due("change " + i + " is gone", before, x::digest);
        }
    }

    private static void thrownCallsSaveNothing() {
        promise = 26;
        SlideMills x = Mills.withText(Mills.times(5, "a"));
        x.addRepeat(3, 3);
        x.undo();
        x.addRepeat(3, 3);
        long before = x.digest();
        Change[] wrongs = {y -> y.addLetter(4), y -> y.setLetter(5, 0), y -> y.setWindow(0),
            y -> y.setShortest(5), y -> y.setLongest(3), y -> y.setLetterPrice(0), y -> y.setRepeatPrice(0),
            y -> y.pack(3), SlideMills::unpack, y -> y.addToken(4), y -> y.addRepeat(0, 0), SlideMills::work,
            SlideMills::restore, y -> y.append(0), y -> y.letterAt(5), y -> y.isRepeat(1), y -> y.letterOf(0),
            y -> y.distanceOf(1), y -> y.lengthOf(1), y -> y.repeatLength(5), y -> y.costBy(3),
            y -> y.tokensBy(3), y -> y.leastCostWith(0), y -> y.pairs(16), y -> y.lastPlaceOf(16)};
        for (int i = 0; i < wrongs.length; i++) {
            Change wrong = wrongs[i];
            Object answer = Checks.answer(() -> {
                wrong.on(x);
                return "nothing";
            });
            CHECKS.same("wrong call " + i + " throws", true, answer.toString().endsWith("Exception"));
            due("wrong call " + i + " changes nothing", before, x::digest);
        }
        Change[] looks = {SlideMills::firstError, SlideMills::isForText, SlideMills::wrongToken,
            SlideMills::wrongReason, y -> y.repeatLength(0), y -> y.repeatLengthByPairs(1),
            y -> y.repeatDistance(2), y -> y.costBy(1), y -> y.tokensBy(2), SlideMills::leastCost,
            SlideMills::leastCostFromBeginning, y -> y.leastCostWith(3), y -> y.pairs(0),
            SlideMills::mostFrequent, SlideMills::packedShare, SlideMills::keep};
        for (int i = 0; i < looks.length; i++) {
            looks[i].on(x);
            due("look " + i + " changes nothing", before, x::digest);
        }
    }

    private static void snapshots() {
        promise = 24;
        SlideMills x = Mills.withText("abc");
        x.addToken(2);
        due("keep", 3, x::keep);
        due("not undoable", 4, x::savedStates);
        promise = 25;
        x.setWindow(3);
        x.emptyText();
        x.emptySack();
        Mills.type(x, "uu");
        due("restore", 3, x::restore);
        due("text", "abc", () -> Mills.textOf(x));
        due("sack", "c", () -> Mills.sackOf(x));
        due("window", 16, x::window);
        due("buffer stays", 2, x::clearBuffer);
        due("undo it", 5, x::undo);
        due("text", "", () -> Mills.textOf(x));
        due("again", 3, x::restore);
        x.addLetter(3);
        promise = 24;
        due("keep again", 4, x::keep);
        x.emptyText();
        promise = 25;
        due("the later one", 4, x::restore);
        x.setLetter(0, 3);
        due("it stays as it was", 4, x::restore);
        due("text", "abcd", () -> Mills.textOf(x));
        due("none", STATE, new SlideMills()::restore);
    }

    private static void looksAtTheText() {
        promise = 27;
        SlideMills x = Mills.withText("dcba");
        due("length", 4, x::textLength);
        due("full", 40, Mills.withText(Mills.times(40, "a"))::textLength);
        promise = 28;
        due("first", 3, () -> x.letterAt(0));
        due("last", 0, () -> x.letterAt(3));
        due("behind", INDEX, () -> x.letterAt(4));
        for (int far : FAR_OUT) {
            due("place " + far, INDEX, () -> x.letterAt(far));
        }
        due("empty", INDEX, () -> new SlideMills().letterAt(0));
        x.setWindow(7);
        x.setShortest(4);
        x.setLongest(6);
        promise = 29;
        due("window", 7, x::window);
        promise = 30;
        due("shortest", 4, x::shortest);
        promise = 31;
        due("longest", 6, x::longest);
    }

    private static void looksAtTheSack() {
        SlideMills x = new SlideMills();
        x.addToken(2);
        x.addRepeat(7, 11);
        x.addToken(0);
        promise = 32;
        due("three", 3, x::tokens);
        promise = 33;
        due("letter", false, () -> x.isRepeat(0));
        due("repeat", true, () -> x.isRepeat(1));
        promise = 34;
        due("letter", 2, () -> x.letterOf(0));
        due("last letter", 0, () -> x.letterOf(2));
        due("repeat", STATE, () -> x.letterOf(1));
        promise = 35;
        due("repeat", 7, () -> x.distanceOf(1));
        due("letter", STATE, () -> x.distanceOf(2));
        promise = 36;
        due("letter", 1, () -> x.lengthOf(0));
        due("repeat", 11, () -> x.lengthOf(1));
        int[] outs = {3, 40, Integer.MIN_VALUE, -1, Integer.MAX_VALUE};
        for (int out : outs) {
            promise = 33;
            due("token " + out, INDEX, () -> x.isRepeat(out));
            promise = 34;
            due("token " + out, INDEX, () -> x.letterOf(out));
            promise = 35;
            due("token " + out, INDEX, () -> x.distanceOf(out));
            promise = 36;
            due("token " + out, INDEX, () -> x.lengthOf(out));
        }
    }

    private static void sackSums() {
        promise = 37;
        SlideMills x = new SlideMills();
        due("empty", 0, x::sackCost);
        x.addToken(2);
        due("a letter", 3, x::sackCost);
        x.addRepeat(7, 11);
        due("and a repeat", 8, x::sackCost);
        x.setLetterPrice(9);
        x.setRepeatPrice(20);
        due("prices of now", 29, x::sackCost);
        promise = 38;
        due("letters", 12, x::sackLetters);
        for (int i = 2; i < 40; i++) {
            x.addRepeat(39, 40);
        }
        due("possible or not", 12 + 38 * 40, x::sackLetters);
        due("empty", 0, new SlideMills()::sackLetters);
    }

    private static void wrongTokens() {
        expectWrong("", -1, 0);
        expectWrong("la;r1,39", -1, 0);
        expectWrong("la;r1,40", 1, 2);
        expectWrong("la;r2,1", 1, 1);
        expectWrong("la;r2,40", 1, 1);
        expectWrong("r1,1", 0, 1);
        expectWrong("la;r1,39;lb", 2, 2);
        expectWrong("la;r1,38;lb", -1, 0);
        expectWrong("la;r1,37;r38,2;r39,1", 3, 2);
        expectWrong("la;lb;r3,1;r1,40", 2, 1);
        expectWrong("la;r1,40;r39,1", 1, 2);
        expectWrong("la;lb;r2,38", -1, 0);
        expectWrong("la;lb;r2,39", 2, 2);
    }

    private static void expectWrong(String works, int token, int reason) {
        SlideMills x = new SlideMills();
        if (!works.isEmpty()) {
            Mills.doWorks(x, works);
        }
        promise = 39;
        due(works, token, x::wrongToken);
        promise = 40;
        due(works, reason, x::wrongReason);
        promise = 11;
        due(works, reason == 0 ? x.sackLetters() : STATE, x::unpack);
    }

    private static void standsForTheText() {
        promise = 41;
        due("both empty", true, new SlideMills()::isForText);
        SlideMills x = Mills.withText("abab");
        due("empty sack", false, x::isForText);
        x.pack(0);
        due("packed", true, x::isForText);
        x.addToken(0);
        due("one more", false, x::isForText);
        x.addLetter(0);
        due("and behind the text", true, x::isForText);
        x.setLetter(0, 2);
        due("another letter", false, x::isForText);
        x.unpack();
        due("unpacked", true, x::isForText);
        x.addRepeat(39, 1);
        due("not possible", false, x::isForText);
        SlideMills wrong = new SlideMills();
        wrong.addRepeat(1, 1);
        due("not possible for the empty text", false, wrong::isForText);
    }

    private static void expectRepeat(SlideMills x, int place, int length, int distance) {
        promise = 42;
        due("at " + place, length, () -> x.repeatLength(place));
        promise = 43;
        due("at " + place, length, () -> x.repeatLengthByPairs(place));
        promise = 44;
        due("at " + place, distance, () -> x.repeatDistance(place));
    }

    private static void repeats() {
        SlideMills x = Mills.withText("abcabcabcdabca");
        int[] lengths = {0, 0, 0, 6, 5, 4, 3, 0, 0, 0, 4, 3, 0, 0};
        int[] distances = {0, 0, 0, 3, 3, 3, 3, 0, 0, 0, 7, 7, 0, 0};
        for (int place = 0; place < 14; place++) {
            expectRepeat(x, place, lengths[place], distances[place]);
        }
        int[] outs = {14, 40, Integer.MIN_VALUE, -1, Integer.MAX_VALUE};
        for (int out : outs) {
            promise = 42;
            due("place " + out, INDEX, () -> x.repeatLength(out));
            promise = 43;
            due("place " + out, INDEX, () -> x.repeatLengthByPairs(out));
            promise = 44;
            due("place " + out, INDEX, () -> x.repeatDistance(out));
        }
        x.emptyText();
        promise = 42;
        due("empty", INDEX, () -> x.repeatLength(0));
    }

    private static void repeatEdges() {
        SlideMills x = Mills.withText(Mills.times(20, "a"));
        expectRepeat(x, 0, 0, 0);
        expectRepeat(x, 1, 8, 1);
        expectRepeat(x, 12, 8, 1);
        expectRepeat(x, 17, 3, 1);
        expectRepeat(x, 18, 0, 0);
        x.setShortest(2);
        expectRepeat(x, 18, 2, 1);
        expectRepeat(x, 19, 0, 0);
        x.setLongest(9);
        expectRepeat(x, 1, 9, 1);
        x.setLongest(4);
        expectRepeat(x, 1, 4, 1);
        SlideMills far = Mills.withText("abc" + Mills.times(13, "d") + "abcda");
        expectRepeat(far, 16, 4, 16);
        far.setWindow(15);
        expectRepeat(far, 16, 0, 0);
        far.setWindow(17);
        expectRepeat(far, 16, 4, 16);
        SlideMills farthest = Mills.withText("abc" + Mills.times(29, "d") + "abcda");
        farthest.setWindow(31);
        expectRepeat(farthest, 32, 0, 0);
        farthest.setWindow(32);
        expectRepeat(farthest, 32, 4, 32);
        SlideMills longer = Mills.withText("abcdabcaabcda");
        expectRepeat(longer, 8, 5, 8);
        longer.setWindow(7);
        expectRepeat(longer, 8, 3, 4);
        SlideMills nearest = Mills.withText("abcdabccabc");
        expectRepeat(nearest, 8, 3, 4);
        SlideMills last = Mills.withText(Mills.times(20, "cd"));
        expectRepeat(last, 37, 3, 2);
        expectRepeat(last, 39, 0, 0);
    }

    private static void expectCosts(SlideMills x, int[] costs, int[] counts, int least) {
        for (int way = 0; way < 3; way++) {
            int by = way;
            promise = 45;
            due("way " + way, costs[way], () -> x.costBy(by));
            promise = 46;
            due("way " + way, counts[way], () -> x.tokensBy(by));
        }
        promise = 47;
        due("least", least, x::leastCost);
        promise = 48;
        due("least", least, x::leastCostFromBeginning);
        promise = 49;
        due("least with its own window", least, () -> x.leastCostWith(x.window()));
    }

    private static void costs() {
        SlideMills x = Mills.withText("abcabcabcdabca");
        expectCosts(x, new int[] {22, 22, 22}, new int[] {6, 6, 6}, 22);
        x.setLetterPrice(1);
        x.setRepeatPrice(4);
        // A repeat of four letters is as dear as they are: the longer token is meant.
        expectCosts(x, new int[] {12, 12, 12}, new int[] {6, 6, 6}, 12);
        x.setRepeatPrice(5);
        expectCosts(x, new int[] {14, 14, 13}, new int[] {6, 6, 9}, 13);
        SlideMills y = Mills.withText("bcdcdabcbcdabc");
        expectCosts(y, new int[] {34, 32, 32}, new int[] {10, 10, 10}, 32);
        SlideMills z = new SlideMills();
        expectCosts(z, new int[] {0, 0, 0}, new int[] {0, 0, 0}, 0);
    }

    private static void costEdges() {
        SlideMills x = Mills.withText("abcd" + "abcd" + "abcd");
        promise = 49;
        due("3", 36, () -> x.leastCostWith(3));
        due("4", 17, () -> x.leastCostWith(4));
        due("1", 36, () -> x.leastCostWith(1));
        due("32", 17, () -> x.leastCostWith(32));
        due("0", ARGUMENT, () -> x.leastCostWith(0));
        due("33", ARGUMENT, () -> x.leastCostWith(33));
        due("window stays", 16, x::window);
        for (int far : FAR_OUT) {
            promise = 49;
            due("window " + far, ARGUMENT, () -> x.leastCostWith(far));
            promise = 45;
            due("way " + far, ARGUMENT, () -> x.costBy(far));
            promise = 46;
            due("way " + far, ARGUMENT, () -> x.tokensBy(far));
        }
        promise = 45;
        due("3", ARGUMENT, () -> x.costBy(3));
        promise = 46;
        due("3", ARGUMENT, () -> x.tokensBy(3));
        due("the sack stays", 0, x::tokens);
        SlideMills dearest = Mills.withText(Mills.times(40, "a"));
        dearest.setLetterPrice(9);
        dearest.setRepeatPrice(20);
        promise = 47;
        due("forty letters", 9 + 5 * 20, dearest::leastCost);
        promise = 48;
        due("forty letters", 9 + 5 * 20, dearest::leastCostFromBeginning);
    }

    private static void pairs() {
        SlideMills x = Mills.withText("abcabcabcdabca");
        int[] counts = {0, 4, 0, 0, 0, 0, 4, 0, 3, 0, 0, 1, 1, 0, 0, 0};
        int[] lasts = {-1, 10, -1, -1, -1, -1, 11, -1, 12, -1, -1, 8, 9, -1, -1, -1};
        for (int i = 0; i < 16; i++) {
            int pair = i;
            promise = 50;
            due("pair " + pair, counts[pair], () -> x.pairs(pair));
            promise = 51;
            due("pair " + pair, lasts[pair], () -> x.lastPlaceOf(pair));
        }
        int[] outs = {16, Integer.MIN_VALUE, -1, Integer.MAX_VALUE};
        for (int out : outs) {
            promise = 50;
            due("pair " + out, ARGUMENT, () -> x.pairs(out));
            promise = 51;
            due("pair " + out, ARGUMENT, () -> x.lastPlaceOf(out));
        }
        promise = 50;
        due("overlapping", 2, () -> Mills.withText("ddd").pairs(15));
        due("the first pair", 3, () -> Mills.withText("aaaab").pairs(0));
        due("one letter", 0, () -> Mills.withText("d").pairs(15));
        promise = 51;
        due("the first pair", 2, () -> Mills.withText("aaaab").lastPlaceOf(0));
        due("at the end", 38, () -> Mills.withText(Mills.times(40, "d")).lastPlaceOf(15));
        promise = 52;
        due("the lowest of two", 1, x::mostFrequent);
        due("the last one", 15, Mills.withText("dd")::mostFrequent);
        due("the first one", 0, Mills.withText("aaab")::mostFrequent);
        due("two alike", 4, Mills.withText("babcba")::mostFrequent);
        due("one letter", STATE, Mills.withText("a")::mostFrequent);
        due("no letter", STATE, new SlideMills()::mostFrequent);
    }

    private static void shares() {
        promise = 53;
        SlideMills x = Mills.withText("abcabcabcdabca");
        due("empty sack", 1.0, x::packedShare);
        x.pack(0);
        due("packed", 22.0 / 42.0, x::packedShare);
        x.emptySack();
        x.addRepeat(39, 40);
        due("not possible", 5.0 / 120.0, x::packedShare);
        x.setLetterPrice(9);
        x.setRepeatPrice(1);
        due("least", 1.0 / 360.0, x::packedShare);
        x.emptySack();
        x.addRepeat(1, 1);
        x.setLetterPrice(1);
        x.setRepeatPrice(20);
        due("most", 20.0, x::packedShare);
        x.emptySack();
        x.addToken(3);
        due("a letter", 1.0, x::packedShare);
    }

    private static void digests() {
        promise = 54;
        SlideMills x = Mills.withText("a");
        x.addToken(3);
        x.addRepeat(1, 2);
        due("as told", Mills.digestOf(x, ""), x::digest);
        Mills.type(x, "+ab;x");
        due("with a buffer", Mills.digestOf(x, "+ab;x"), x::digest);
        x.clearBuffer();
        Mills.doWorks(x, "+bcdabcd;p1;r39,40;u;-");
        due("with a stop", Mills.digestOf(x, ""), x::digest);
        due("empty", Mills.digestOf(new SlideMills(), ""), new SlideMills()::digest);
        SlideMills two = Mills.withText("ba");
        due("two letters", Mills.digestOf(two, ""), two::digest);
        two.addRepeat(1, 1);
        two.setLetterPrice(1);
        for (int price = 1; price <= 20; price++) {
            two.setRepeatPrice(price);
            due("the share " + price, Mills.digestOf(two, ""), two::digest);
        }
    }
}
