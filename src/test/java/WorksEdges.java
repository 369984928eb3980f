/** The buffer and works as texts: promises 16 to 22. */
final class WorksEdges extends Edges {
    private static final String PARTS = "+-puelr";
    private static final String DIGITS = "0123456789";
    private static final String FIRST_DIGITS = "123456789";
    private static final String FULL = Mills.times(10, "abcd");

    WorksEdges(Sentences doc) {
        super(doc);
    }

    void all() {
        codes();
        fullBuffer();
        clearing();
        emptyBuffer();
        nextCharacters();
        numbers();
        leadingZeros();
        firstOfErrors();
        notComplete();
        endOfBuffer();
        onePart();
        manyParts();
        noStop();
        firstAndLastPart();
        whyStops();
        nothingBehindTheStop();
        latestCall();
    }

    private static SlideMills typed(String characters) {
        SlideMills x = new SlideMills();
        Mills.type(x, characters);
        return x;
    }

    private void codes() {
        of(16, "- `code`: the character code, 33 to 126", "Appends a character to the buffer");
        for (int code = 33; code <= 126; code++) {
            int one = code;
            due("code " + one, 1, () -> new SlideMills().append(one));
            due("code " + one + " behind another", 2, () -> typed("+").append(one));
        }
        of(16, "if code is not 33 to 126");
        refusedNumbers("code", ARGUMENT, SlideMills::new, SlideMills::append, outOf(33, 126));
        refusedNumbers("code", ARGUMENT, () -> typed("+ab"), SlideMills::append, outOf(33, 126));
        refusedNumbers("code", ARGUMENT, () -> typed("+ab"), SlideMills::append, 0, 10, -43, 43 + 256, 43 + 65536);
        of(0, "If several exceptions apply");
        refusedNumbers("code for a full buffer", ARGUMENT, () -> typed(Mills.times(60, "!")), SlideMills::append,
                outOf(33, 126));
    }

    private void fullBuffer() {
        of(16, "Returns the new length of the buffer");
        SlideMills x = new SlideMills();
        for (int length = 1; length <= 60; length++) {
            due("character " + length, length, () -> x.append('u'));
        }
        of(0, "The buffer has at most 60 characters");
        due("60", 60, x::clearBuffer);
        due("room again", 1, () -> x.append('u'));
        of(16, "if the buffer has 60 characters");
        String most = "+" + Mills.times(59, "a");
        refused("least code", STATE, () -> typed(most), y -> y.append(33));
        refused("greatest code", STATE, () -> typed(most), y -> y.append(126));
        refused("a right one", STATE, () -> typed(most), y -> y.append('a'));
        due("the 60th behind 59", 60, () -> typed(most.substring(1)).append('a'));
    }

    private void clearing() {
        of(17, "Clears the buffer", "Returns the length that it had");
        int[] lengths = {0, 1, 59, 60};
        for (int length : lengths) {
            SlideMills x = typed(Mills.times(length, "x"));
            due("of " + length, length, x::clearBuffer);
            due("again", 0, x::clearBuffer);
            due("no error", 0, x::firstError);
            due("nothing to do", ARGUMENT, x::work);
            due("a character comes in front", 1, () -> x.append('u'));
            due("it is the only one", 1, x::work);
        }
        SlideMills x = typed("u");
        x.clearBuffer();
        due("it saves nothing", 0, x::savedStates);
    }

    private void emptyBuffer() {
        of(18, "Finds the first syntax error of the buffer");
        due("empty buffer", 0, new SlideMills()::firstError);
        of(19, "if the buffer is not complete works as a text (the buffer stays)");
        refused("empty buffer", ARGUMENT, SlideMills::new, SlideMills::work);
        refused("empty buffer behind works", ARGUMENT, () -> Mills.after("+abc;p0;r39,1;u"), SlideMills::work);
    }

    /** Tries each character behind these ones; only those that are told may come. */
    private void next(String before, String may) {
        for (int code = 33; code <= 126; code++) {
            char sign = (char) code;
            int due = before.length() + (may.indexOf(sign) >= 0 ? 1 : 0);
            due("\"" + before + "\" and " + sign, due, () -> Mills.errorIn(before + sign));
        }
    }

    private void nextCharacters() {
        of(0, "The buffer is read from left to right");
        for (String works : new String[] {"", "u;", "-;", "e;", "+a;", "p0;", "la;", "r1,1;", "r1,4;", "u;u;"}) {
            next(works, PARTS);
        }
        of(0, "Works as a text are one or more parts with \";\" between them");
        for (String works : new String[] {"", "e;", "+d;r39,40;"}) {
            next(works + "+", "abcd");
            next(works + "+a", "abcd;");
            next(works + "+dcba", "abcd;");
            next(works + "p", "012");
            next(works + "l", "abcd");
            next(works + "r", FIRST_DIGITS);
        }
        for (String part : new String[] {"-", "u", "e", "p0", "p1", "p2", "la", "lb", "lc", "ld"}) {
            next(part, ";");
        }
        next("r1", DIGITS + ",");
        next("r2", DIGITS + ",");
        next("r3", DIGITS + ",");
        for (String distance : new String[] {"4", "5", "9", "10", "19", "20", "29", "30", "39"}) {
            next("r" + distance, ",");
            next("r" + distance + ",", FIRST_DIGITS);
        }
        next("r1,1", DIGITS + ";");
        next("r1,2", DIGITS + ";");
        next("r1,3", DIGITS + ";");
        next("r1,4", "0;");
        for (String length : new String[] {"5", "9", "10", "19", "20", "29", "30", "39", "40"}) {
            next("r39," + length, ";");
        }
    }

    private void numbers() {
        of(0, "Works as a text are one or more parts with \";\" between them");
        for (int distance = 1; distance <= 39; distance++) {
            for (int length = 1; length <= 40; length++) {
                String part = "r" + distance + "," + length;
                due(part, "<" + distance + "," + length + ">", () -> Mills.sackOf(Mills.after(part)));
            }
        }
        for (int number = 40; number <= 99; number++) {
            String signs = String.valueOf(number);
            due("distance " + number, 2, () -> Mills.errorIn("r" + signs + ",1"));
            due("length " + number, number == 40 ? 5 : 4, () -> Mills.errorIn("r1," + signs));
        }
        for (String number : new String[] {"100", "399", "390", "400", "139"}) {
            due("distance " + number, number.charAt(0) == '4' ? 2 : 3, () -> Mills.errorIn("r" + number + ",1"));
            due("length " + number, 5, () -> Mills.errorIn("r1," + number));
        }
    }

    private void leadingZeros() {
        of(0, "Numbers have no leading zeros");
        due("distance", 1, () -> Mills.errorIn("r0"));
        due("distance 1", 1, () -> Mills.errorIn("r01,1"));
        due("length", 3, () -> Mills.errorIn("r1,0"));
        due("length 1", 3, () -> Mills.errorIn("r1,01"));
        due("way 1", 2, () -> Mills.errorIn("p01"));
        due("way 0 is no leading zero", 2, () -> Mills.errorIn("p0"));
        due("zeros behind are none", 6, () -> Mills.errorIn("r10,40"));
        due("nor here", 6, () -> Mills.errorIn("r30,10"));
    }

    private void firstOfErrors() {
        of(18, "Returns the index of the first character that is a syntax error; the length of the buffer");
        due("the first character", 0, () -> Mills.errorIn("xx"));
        due("the last character", 2, () -> Mills.errorIn("u;x"));
        due("of two", 1, () -> Mills.errorIn("uu;;x"));
        due("what comes behind does not heal it", 1, () -> Mills.errorIn("p3;u"));
        due("the 60th", 59, () -> Mills.errorIn("+" + Mills.times(58, "a") + "e"));
        due("none in 60", 60, () -> Mills.errorIn("+" + Mills.times(59, "a")));
        due("what can't be done is no error", 42, () -> Mills.errorIn("+" + Mills.times(41, "a")));
        SlideMills x = typed("ux");
        due("twice the same", 1, x::firstError);
        due("twice the same", 1, x::firstError);
        due("the buffer stays", 2, x::clearBuffer);
    }

    private void notComplete() {
        of(19, "if the buffer is not complete works as a text (the buffer stays)");
        String[] texts = {"+", "p", "l", "r", "r1", "r3", "r4", "r39", "r1,", "r39,", "u;", "-;", "+a;", "r1,1;", "e;+",
            "e;p", "e;l", "e;r", "e;r1", "e;r1,", ";", "x", "ux", "u;x", "u;;u", "p3", "r0,1", "r1,0", "r40,1", "r1,41",
            "+a1", "u,", "la;lb;u;", "xu", ";u"};
        for (String text : texts) {
            refused(text, ARGUMENT, () -> typed(text), SlideMills::work);
            SlideMills x = typed(text);
            due(text + " is refused", ARGUMENT, x::work);
            due("its buffer stays", text.length(), x::clearBuffer);
        }
        refused("the saved states and the stop stay", ARGUMENT, () -> {
            SlideMills x = Mills.after("+abca;p0;r39,1;u");
            Mills.type(x, "-;e;");
            return x;
        }, SlideMills::work);
        SlideMills x = typed("r1,");
        due("not yet", ARGUMENT, x::work);
        x.append('4');
        due("then", 1, x::work);
        due("buffer", 0, x::clearBuffer);
    }

    /** The buffer ends where works would go on: they are not complete, but there is no error. */
    private void endOfBuffer() {
        of(0, "The buffer is read from left to right");
        for (String end : new String[] {"u;u;", "u;;u", "u;+", "u;p", "u;l", "u;r", "u;r1", "u;r9,", "r1,"}) {
            String start = end.length() % 2 == 0 ? "" : "la;";
            String text = start + Mills.times((60 - start.length() - end.length()) / 2, "e;") + end;
            due("length of \"" + text + "\"", 60, text::length);
            due("\"" + text + "\"", end.equals("u;;u") ? 58 : 60, () -> Mills.errorIn(text));
            refused(text, ARGUMENT, () -> typed(text), SlideMills::work);
        }
        due("60 characters", 60, () -> Mills.errorIn(Mills.times(30, "e;")));
        of(19, "Returns how many parts are done");
        due("60 characters of 30 parts", 30, typed(Mills.times(28, "e;") + "p0;e")::work);
    }

    private void onePart() {
        of(0, "Works as a text are one or more parts with \";\" between them");
        due("one letter", "d", () -> Mills.textOf(Mills.after("+d")));
        due("behind the text", "abd", () -> Mills.textOf(Mills.after("+ab;+d")));
        due("empty", "", () -> Mills.textOf(Mills.after("-")));
        due("empty of some", "", () -> Mills.textOf(Mills.after("+ab;-")));
        due("packed of none", "", () -> Mills.sackOf(Mills.after("la;p0")));
        due("greedily", "bcdcdabc<8,3><6,3>", () -> Mills.sackOf(Mills.after("+bcdcdabcbcdabc;p0")));
        due("lazily", "bcdcdabcb<6,5>", () -> Mills.sackOf(Mills.after("+bcdcdabcbcdabc;p1")));
        due("cheaply", "bbcc<4,3>a<4,3><1,3>", () -> Mills.sackOf(Mills.after("+bbccbbcabbcccc;p2")));
        due("unpacked", "aa", () -> Mills.textOf(Mills.after("la;r1,1;u")));
        due("empty sack", "", () -> Mills.sackOf(Mills.after("la;r1,1;e")));
        due("a token", "d", () -> Mills.sackOf(Mills.after("ld")));
        due("a repeat", "<39,40>", () -> Mills.sackOf(Mills.after("r39,40")));
        of(19, "Undoable, as one call, also if nothing is done");
        for (String part : new String[] {"+d", "-", "p0", "p1", "p2", "u", "e", "la", "r1,1"}) {
            SlideMills x = typed(part);
            due(part, 1, x::work);
            due("saved", 1, x::savedStates);
            due("buffer", 0, x::clearBuffer);
        }
    }

    private void manyParts() {
        of(19, "Does what the buffer tells, part by part", "Returns how many parts are done");
        SlideMills x = typed(Mills.times(29, "-;") + "u");
        due("30 parts in 59", 30, x::work);
        due("buffer", 0, x::clearBuffer);
        SlideMills y = typed(Mills.times(29, "u;") + "ld");
        due("30 parts in 60", 30, y::work);
        due("sack", "d", () -> Mills.sackOf(y));
        due("one state is saved", 1, y::savedStates);
        due("all of it is undone", 0, y::undo);
        due("sack", "", () -> Mills.sackOf(y));
        SlideMills z = typed("+" + Mills.times(39, "a") + ";+b;p0;r1,1;e;u");
        due("six parts", 6, z::work);
        due("text", 0, z::textLength);
    }

    private void noStop() {
        of(20, "Returns whether the latest call of work() that did not throw an exception stopped");
        due("no call", false, new SlideMills()::hasStopped);
        due("all done", false, Mills.after("u")::hasStopped);
        due("all done, just so", false, Mills.after("+" + FULL)::hasStopped);
        due("all done, 30 parts", false, Mills.after(Mills.times(29, "-;") + "u")::hasStopped);
        SlideMills thrown = typed("u;");
        Checks.answer(thrown::work);
        due("a call that threw", false, thrown::hasStopped);
        of(21, "if it did not stop");
        refused("no call", STATE, SlideMills::new, SlideMills::stoppedPart);
        refused("all done", STATE, () -> Mills.after("+abc;p0;u"), SlideMills::stoppedPart);
        refused("stopped, then all done", STATE, WorksEdges::stoppedAndDone, SlideMills::stoppedPart);
        of(22, "if it did not stop");
        refused("no call", STATE, SlideMills::new, SlideMills::whyStopped);
        refused("all done", STATE, () -> Mills.after("+abc;p0;u"), SlideMills::whyStopped);
        refused("stopped, then all done", STATE, WorksEdges::stoppedAndDone, SlideMills::whyStopped);
    }

    private static SlideMills stoppedAndDone() {
        SlideMills x = Mills.after("r1,1;u");
        Mills.doWorks(x, "e");
        return x;
    }

    private static SlideMills wrongSack() {
        SlideMills x = new SlideMills();
        x.addRepeat(1, 1);
        return x;
    }

    private void firstAndLastPart() {
        of(21, "Returns the number, from 0", "Returns the number of the part at which the latest call of work()");
        SlideMills first = wrongSack();
        due("nothing is done", 0, () -> Mills.doWorks(first, "u;-;+a"));
        due("the first part", 0, first::stoppedPart);
        due("it has stopped", true, first::hasStopped);
        due("it saved a state", 2, first::savedStates);
        due("buffer", 0, first::clearBuffer);
        due("undo", 1, first::undo);
        due("no stop", false, first::hasStopped);
        SlideMills only = wrongSack();
        due("nothing is done", 0, () -> Mills.doWorks(only, "u"));
        due("the only part", 0, only::stoppedPart);
        SlideMills last = wrongSack();
        due("all but the last", 29, () -> Mills.doWorks(last, Mills.times(29, "-;") + "u"));
        due("the 30th part", 29, last::stoppedPart);
        due("it has stopped", true, last::hasStopped);
        due("buffer", 0, last::clearBuffer);
    }

    private void stop(String works, int part, int reason) {
        SlideMills x = typed(works);
        due(works, part, x::work);
        due(works + ", part", part, x::stoppedPart);
        due(works + ", reason", reason, x::whyStopped);
    }

    private void whyStops() {
        of(22, "Returns 1 or 2: a token was wrong when it was unpacked, for this reason", "Tells why the latest call");
        stop("r1,1;u", 1, 1);
        stop("la;r2,1;u", 2, 1);
        stop("la;r2,40;u", 2, 1);
        stop("la;r1,40;u", 2, 2);
        stop("la;r1,40;r39,1;u", 3, 2);
        stop("la;r1,39;lb;u", 3, 2);
        stop("+" + FULL + ";+a", 1, 3);
        stop("+" + FULL + "a", 0, 3);
        stop("+a;+" + FULL, 1, 3);
        stop("+" + FULL + ";p0;-;r39,1;r1,1;u", 5, 2);
        stop("la;r1,39;u;+a", 3, 3);
        SlideMills full = new SlideMills();
        for (int token = 0; token < 40; token++) {
            full.addToken(0);
        }
        due("a letter", 0, () -> Mills.doWorks(full, "ld"));
        due("the sack had 40", 4, full::whyStopped);
        due("a repeat", 2, () -> Mills.doWorks(full, "u;-;r1,1"));
        due("the sack had 40", 4, full::whyStopped);
        due("its part", 2, full::stoppedPart);
        due("sack", Mills.times(40, "a"), () -> Mills.sackOf(full));
        due("a letter for the full text", 1, () -> Mills.doWorks(full, "u;+a"));
        due("the text had 40", 3, full::whyStopped);
        due("the sack is emptied first", 2, () -> Mills.doWorks(full, "e;ld"));
        due("sack", "d", () -> Mills.sackOf(full));
    }

    private void nothingBehindTheStop() {
        of(19, "Does what the buffer tells, part by part, up to the first part that is not possible, and clears");
        SlideMills x = Mills.after("+ab;r3,1;u;-;e;la");
        due("text before the stop", "ab", () -> Mills.textOf(x));
        due("sack before the stop", "<3,1>", () -> Mills.sackOf(x));
        due("buffer", 0, x::clearBuffer);
        due("one state", 1, x::savedStates);
        SlideMills text = Mills.after("+" + Mills.times(39, "a") + ";+bc;+d;-");
        due("none of the part, nothing behind it", Mills.times(39, "a"), () -> Mills.textOf(text));
        due("one letter has room", 40, () -> text.addLetter(3));
        SlideMills unpacked = Mills.after("+cd;la;r2,1;u;lb");
        due("text as it was", "cd", () -> Mills.textOf(unpacked));
        due("sack as it was", "a<2,1>", () -> Mills.sackOf(unpacked));
    }

    private void latestCall() {
        of(20, "Returns whether the latest call of work() that did not throw an exception stopped");
        SlideMills x = Mills.after("r1,1;u");
        due("stopped", true, x::hasStopped);
        Mills.type(x, "e;");
        due("a call that throws", ARGUMENT, x::work);
        due("still stopped", true, x::hasStopped);
        due("at the same part", 1, x::stoppedPart);
        due("for the same reason", 1, x::whyStopped);
        x.clearBuffer();
        x.emptySack();
        x.unpack();
        due("unpacking by hand is no such call", true, x::hasStopped);
        due("another stop", 0, () -> Mills.doWorks(x, "+" + FULL + "a"));
        due("at another part", 0, x::stoppedPart);
        due("for another reason", 3, x::whyStopped);
        due("no stop", 1, () -> Mills.doWorks(x, "+a"));
        due("no more", false, x::hasStopped);
    }
}
