/** Undo and the snapshot: promises 23 to 26, and all calls that are undoable. */
final class SavedEdges extends Edges {
    private static final String LONG = "abcdabcdabcdabcdabcd";

    SavedEdges(Sentences doc) {
        super(doc);
    }

    void all() {
        none();
        upToSix();
        seventh();
        aroundTheRing();
        undoable();
        changingNothing();
        notUndoable();
        whatIsSaved();
        whatIsNot();
        noSnapshot();
        keeping();
        restoring();
    }

    private void none() {
        of(23, "if there is none");
        refused("new", STATE, SlideMills::new, SlideMills::undo);
        refused("all undone", STATE, () -> {
            SlideMills x = Mills.withText("a");
            x.undo();
            return x;
        }, SlideMills::undo);
        refused("only kept and typed", STATE, () -> {
            SlideMills x = new SlideMills();
            x.keep();
            x.append('u');
            return x;
        }, SlideMills::undo);
        of(26, "Returns the number of saved states");
        due("new", 0, new SlideMills()::savedStates);
    }

    private void upToSix() {
        of(26, "Returns the number of saved states");
        SlideMills x = new SlideMills();
        for (int saved = 1; saved <= 6; saved++) {
            x.addLetter(0);
            due("after " + saved, saved, x::savedStates);
        }
        of(23, "Restores the latest saved state, and drops it", "Returns how many saved states are left");
        for (int left = 5; left >= 0; left--) {
            int due = left;
            due("undo to " + due, due, x::undo);
            due("text", due, x::textLength);
            due("saved", due, x::savedStates);
        }
        due("one more", STATE, x::undo);
        due("text", 0, x::textLength);
    }

    private void seventh() {
        of(0, "At most 6 states are saved; the oldest one is dropped first");
        for (int letters = 7; letters <= 20; letters++) {
            SlideMills x = Mills.withText(LONG.substring(0, letters));
            due("after " + letters, 6, x::savedStates);
            for (int left = 5; left >= 0; left--) {
                int due = left;
                due("undo to " + due, due, x::undo);
                due("text", LONG.substring(0, letters - 6 + due), () -> Mills.textOf(x));
            }
            due("the oldest ones are dropped", STATE, x::undo);
            due("text", letters - 6, x::textLength);
        }
    }

    /** Saves and undoes in turns, so that the room of the saved states is used round and round. */
    private void aroundTheRing() {
        of(23, "Restores the latest saved state, and drops it");
        SlideMills x = new SlideMills();
        int saved = 0;
        int length = 0;
        for (int round = 0; round < 8; round++) {
            for (int more = 0; more < 5; more++) {
                x.addLetter(length % 4);
                length++;
                saved = Math.min(6, saved + 1);
            }
            for (int back = 0; back < 4; back++) {
                saved--;
                length--;
                int left = saved;
                String text = Mills.times(10, "abcd").substring(0, length);
                due("round " + round, left, x::undo);
                due("text", text, () -> Mills.textOf(x));
            }
        }
        while (saved > 0) {
            saved--;
            length--;
            int left = saved;
            due("at last", left, x::undo);
        }
        int rest = length;
        due("none left", STATE, x::undo);
        due("text", rest, x::textLength);
    }

    private static SlideMills some() {
        SlideMills x = Mills.after("+abcabc;la;r1,4");
        x.keep();
        x.undo();
        Mills.doWorks(x, "+dab;lb;r1,3");
        return x;
    }

    /** The call saves one state, the one from before it, and from six saved ones drops the oldest. */
    private void saves(int promise, String what, Call call) {
        of(promise, promise == 19 ? "Undoable, as one call, also if nothing is done" : "Undoable.");
        SlideMills x = some();
        long before = x.digest();
        due(what, true, () -> call.on(x) != null);
        due(what + " saves", 2, x::savedStates);
        due(what + " is undone", 1, x::undo);
        due("state before " + what, before, x::digest);
        SlideMills full = some();
        for (int letter = 0; letter < 5; letter++) {
            full.setLetter(0, letter % 2);
        }
        long withSix = full.digest();
        call.on(full);
        due(what + " is the seventh", 6, full::savedStates);
        due("undo " + what, 5, full::undo);
        full.setWindow(full.window());
        due("state before " + what, withSix, full::digest);
        for (int left = 5; left >= 0; left--) {
            int due = left;
            due("undo to " + due, due, full::undo);
        }
        due("the oldest one is dropped", STATE, full::undo);
        due("the oldest one left", "dab", () -> Mills.textOf(full));
    }

    private void undoable() {
        saves(2, "addLetter", x -> x.addLetter(1));
        saves(3, "setLetter", x -> x.setLetter(2, 3));
        saves(4, "emptyText", SlideMills::emptyText);
        saves(5, "setWindow", x -> x.setWindow(2));
        saves(6, "setShortest", x -> x.setShortest(4));
        saves(7, "setLongest", x -> x.setLongest(4));
        saves(8, "setLetterPrice", x -> x.setLetterPrice(9));
        saves(9, "setRepeatPrice", x -> x.setRepeatPrice(20));
        saves(10, "pack 0", x -> x.pack(0));
        saves(10, "pack 1", x -> x.pack(1));
        saves(10, "pack 2", x -> x.pack(2));
        saves(11, "unpack", SlideMills::unpack);
        saves(12, "addToken", x -> x.addToken(3));
        saves(13, "addRepeat", x -> x.addRepeat(39, 40));
        saves(14, "takeLast", SlideMills::takeLast);
        saves(15, "emptySack", SlideMills::emptySack);
        saves(19, "work", x -> Mills.doWorks(x, "+ab;p0;-;lc"));
        saves(19, "work that stops", x -> Mills.doWorks(x, "r39,1;u"));
        saves(19, "work that does nothing", x -> Mills.doWorks(x, "+" + Mills.times(41, "a")));
        saves(25, "restore", SlideMills::restore);
    }

    private void nothing(String what, String works, Call call) {
        SlideMills x = new SlideMills();
        if (!works.isEmpty()) {
            Mills.doWorks(x, works);
        }
        int saved = x.savedStates();
        long before = x.digest();
        call.on(x);
        due(what + " saves", saved + 1, x::savedStates);
        due(what + " is undone", saved, x::undo);
        due("state before " + what, before, x::digest);
    }

    private void changingNothing() {
        of(0, "saves the state from before it (also if it changes nothing)");
        nothing("the same letter", "+a", x -> x.setLetter(0, 0));
        nothing("emptying an empty text", "", SlideMills::emptyText);
        nothing("the same window", "", x -> x.setWindow(16));
        nothing("the same shortest", "", x -> x.setShortest(3));
        nothing("the same longest", "", x -> x.setLongest(8));
        nothing("the same price of a letter", "", x -> x.setLetterPrice(3));
        nothing("the same price of a repeat", "", x -> x.setRepeatPrice(5));
        nothing("packing nothing", "", x -> x.pack(0));
        nothing("packing the same", "+abcabc;p2", x -> x.pack(2));
        nothing("unpacking nothing", "", SlideMills::unpack);
        nothing("unpacking the same", "+abcabc;p1", SlideMills::unpack);
        nothing("emptying an empty sack", "", SlideMills::emptySack);
        nothing("works for nothing", "", x -> Mills.doWorks(x, "-;e;u;p0"));
        nothing("works that stop at once", "+" + Mills.times(40, "a") + ";+a", x -> Mills.doWorks(x, "+a"));
        nothing("restoring the same", "+abc", x -> x.keep() + x.restore());
    }

    private void notUndoable() {
        of(26, "Returns the number of saved states");
        SlideMills x = Mills.after("+ab;la");
        Call[] calls = {y -> y.append('u'), SlideMills::firstError, SlideMills::clearBuffer, SlideMills::keep,
            SlideMills::hasStopped, SlideMills::savedStates, SlideMills::textLength, y -> y.letterAt(0),
            SlideMills::window, SlideMills::shortest, SlideMills::longest, SlideMills::tokens, y -> y.isRepeat(0),
            y -> y.letterOf(0), y -> y.lengthOf(0), SlideMills::sackCost, SlideMills::sackLetters,
            SlideMills::wrongToken, SlideMills::wrongReason, SlideMills::isForText, y -> y.repeatLength(0),
            y -> y.repeatLengthByPairs(0), y -> y.repeatDistance(0), y -> y.costBy(0), y -> y.tokensBy(2),
            SlideMills::leastCost, SlideMills::leastCostFromBeginning, y -> y.leastCostWith(32), y -> y.pairs(1),
            y -> y.lastPlaceOf(1), SlideMills::mostFrequent, SlideMills::packedShare, SlideMills::digest};
        for (int i = 0; i < calls.length; i++) {
            calls[i].on(x);
            due("call " + i, 1, x::savedStates);
        }
        due("undo", 0, x::undo);
        due("undo is none", STATE, x::undo);
    }

    private void whatIsSaved() {
        of(0, "all, also the latest stop and its reason");
        SlideMills x = Mills.after("r1,1;u");
        Mills.doWorks(x, "e;+" + Mills.times(41, "a"));
        due("part now", 1, x::stoppedPart);
        due("reason now", 3, x::whyStopped);
        Mills.doWorks(x, "u");
        due("no stop", false, x::hasStopped);
        x.undo();
        due("stop again", true, x::hasStopped);
        due("part again", 1, x::stoppedPart);
        due("reason again", 3, x::whyStopped);
        x.undo();
        due("reason before", 1, x::whyStopped);
        x.undo();
        due("no stop at first", false, x::hasStopped);
        NumberCall[] sets = {SlideMills::setWindow, SlideMills::setShortest, SlideMills::setLongest,
            SlideMills::setLetterPrice, SlideMills::setRepeatPrice};
        int[] firsts = {16, 3, 8, 3, 5};
        for (int i = 0; i < sets.length; i++) {
            NumberCall set = sets[i];
            int first = firsts[i];
            SlideMills y = new SlideMills();
            y.keep();
            set.on(y, 4);
            due("setting " + i + " now", 4, () -> set.on(y, 4));
            y.undo();
            y.undo();
            due("setting " + i + " undone", first, () -> set.on(y, 4));
            y.restore();
            due("setting " + i + " restored", first, () -> set.on(y, 4));
        }
    }

    private void whatIsNot() {
        of(0, "but the buffer, the saved states and the snapshot (a snapshot has the same)");
        SlideMills x = Mills.withText("ab");
        Mills.type(x, "+ab");
        x.addLetter(2);
        x.append('c');
        x.undo();
        due("undo leaves the buffer", 4, x::clearBuffer);
        Mills.doWorks(x, "la");
        x.undo();
        due("what work cleared stays so", 0, x::clearBuffer);
        Mills.type(x, "u");
        x.keep();
        x.append(';');
        x.restore();
        due("restore leaves the buffer", 2, x::clearBuffer);
        SlideMills y = Mills.withText("ab");
        y.keep();
        y.addLetter(2);
        y.keep();
        y.undo();
        due("undo leaves the snapshot", 3, y::restore);
        SlideMills z = Mills.withText("abc");
        z.keep();
        z.undo();
        z.undo();
        z.undo();
        due("restore", 3, z::restore);
        due("it brings no saved state back", 1, z::savedStates);
        due("its own is undone", 0, z::undo);
        due("text", 0, z::textLength);
        SlideMills early = new SlideMills();
        early.keep();
        Mills.addLetters(early, "abcdab");
        due("restore", 0, early::restore);
        due("it takes no saved state away", 6, early::savedStates);
    }

    private void noSnapshot() {
        of(25, "if there is no snapshot");
        refused("new", STATE, SlideMills::new, SlideMills::restore);
        refused("with saved states", STATE, SavedEdges::unkept, SlideMills::restore);
        refused("undone", STATE, () -> {
            SlideMills x = unkept();
            x.undo();
            return x;
        }, SlideMills::restore);
    }

    private static SlideMills unkept() {
        return Mills.withText("abcdabcd");
    }

    private void keeping() {
        of(24, "Takes a snapshot, in place of the one before", "Returns the length of the text");
        SlideMills x = new SlideMills();
        due("of an empty text", 0, x::keep);
        due("an empty one is one", 0, x::restore);
        Mills.addLetters(x, Mills.times(10, "abcd"));
        due("of a full text", 40, x::keep);
        x.emptyText();
        due("the later one", 40, x::restore);
        due("kept again", 40, x::keep);
        x.emptyText();
        due("of the text made empty", 0, x::keep);
        Mills.addLetters(x, "abc");
        due("the latest one", 0, x::restore);
        due("it saves nothing", 6, x::savedStates);
    }

    private void restoring() {
        of(25, "Restores the state of the snapshot, which stays", "Returns the length of the text then");
        SlideMills x = Mills.after("+abcabc;p0;r39,1;u");
        long kept = x.digest();
        x.keep();
        Mills.doWorks(x, "-;e");
        x.setWindow(1);
        due("restore", 6, x::restore);
        due("saved", 4, x::savedStates);
        due("the stop", 1, x::whyStopped);
        for (int again = 0; again < 8; again++) {
            x.setLetter(0, again % 4);
            x.addToken(1);
            due("again", 6, x::restore);
            due("the first letter", 0, () -> x.letterAt(0));
        }
        while (x.savedStates() > 0) {
            x.undo();
        }
        due("behind all undoing", 6, x::restore);
        due("but for the saved states, which were 1 too", kept, x::digest);
    }
}
