/** The sack: promises 11 to 15, 32 to 41 and 53. */
final class SackEdges extends Edges {
    SackEdges(Sentences doc) {
        super(doc);
    }

    void all() {
        letters();
        repeats();
        whateverTheSettings();
        fullSack();
        taking();
        emptying();
        looking();
        sums();
        tooFar();
        tooMany();
        firstWrong();
        unpacking();
        forTheText();
        share();
    }

    private static SlideMills full() {
        SlideMills x = new SlideMills();
        for (int token = 0; token < 40; token++) {
            x.addToken(token % 4);
        }
        return x;
    }

    private static SlideMills fullOfRepeats() {
        SlideMills x = new SlideMills();
        for (int token = 0; token < 40; token++) {
            x.addRepeat(39, 40);
        }
        return x;
    }

    private void letters() {
        of(12, "Puts a letter behind the sack", "- `letter`: 0 to 3", "Returns how many tokens there are then");
        for (int letter = 0; letter <= 3; letter++) {
            int one = letter;
            SlideMills x = new SlideMills();
            due("letter " + one, 1, () -> x.addToken(one));
            due("it stands there", one, () -> x.letterOf(0));
            due("as a sign", one, () -> Mills.after("l" + "abcd".charAt(one)).letterOf(0));
        }
        of(12, "if letter is out of range");
        refusedNumbers("letter", ARGUMENT, SlideMills::new, SlideMills::addToken, outOf(0, 3));
        refusedNumbers("letter", ARGUMENT, () -> Mills.after("la;r1,2"), SlideMills::addToken, outOf(0, 3));
        of(0, "If several exceptions apply");
        refusedNumbers("letter for a full sack", ARGUMENT, SackEdges::full, SlideMills::addToken, outOf(0, 3));
    }

    private void repeats() {
        of(13, "Puts a repeat behind the sack", "- `distance`: 1 to 39", "- `length`: 1 to 40",
                "Returns how many tokens there are then");
        for (int distance = 1; distance <= 39; distance++) {
            int far = distance;
            SlideMills x = new SlideMills();
            for (int length = 1; length <= 40; length++) {
                int many = length;
                due(far + " back, " + many, many, () -> x.addRepeat(far, many));
                due("distance", far, () -> x.distanceOf(many - 1));
                due("length", many, () -> x.lengthOf(many - 1));
            }
        }
        of(13, "if distance or length is out of range");
        refusedNumbers("distance", ARGUMENT, SlideMills::new, (x, far) -> x.addRepeat(far, 1), outOf(1, 39));
        refusedNumbers("length", ARGUMENT, SlideMills::new, (x, many) -> x.addRepeat(1, many), outOf(1, 40));
        refusedNumbers("distance", ARGUMENT, () -> Mills.after("la"), (x, far) -> x.addRepeat(far, 40), outOf(1, 39));
        refusedNumbers("length", ARGUMENT, () -> Mills.after("la"), (x, many) -> x.addRepeat(39, many), outOf(1, 40));
        refused("both", ARGUMENT, SlideMills::new, x -> x.addRepeat(0, 0));
        of(0, "If several exceptions apply");
        refusedNumbers("distance for a full sack", ARGUMENT, SackEdges::full, (x, far) -> x.addRepeat(far, 1),
                outOf(1, 39));
        refusedNumbers("length for a full sack", ARGUMENT, SackEdges::full, (x, many) -> x.addRepeat(1, many),
                outOf(1, 40));
    }

    private void whateverTheSettings() {
        of(0, "It can be changed by hand: tokens come behind it");
        SlideMills x = new SlideMills();
        x.setWindow(1);
        x.setShortest(4);
        x.setLongest(4);
        due("shorter than the shortest", 1, () -> x.addRepeat(1, 1));
        due("farther than the window", 2, () -> x.addRepeat(39, 2));
        due("longer than the longest", 3, () -> x.addRepeat(2, 40));
        due("by works", 3, () -> Mills.doWorks(x, "r39,40;r1,1;r2,3"));
        due("sack", "<1,1><39,2><2,40><39,40><1,1><2,3>", () -> Mills.sackOf(x));
        due("unpacked too", 5, () -> Mills.doWorks(x, "e;la;lb;r2,30;u"));
        due("text", Mills.times(16, "ab"), () -> Mills.textOf(x));
        due("a settings' change leaves the sack", 1, () -> x.setWindow(32));
        due("sack", "ab<2,30>", () -> Mills.sackOf(x));
        of(0, "A token is a letter, or a repeat, with a distance and a length, each 1 or more");
        due("one letter one back", "aa", () -> unpacked("la;r1,1"));
        due("from the very beginning", "abca", () -> unpacked("la;lb;lc;r3,1"));
        due("up to the place", "abcabc", () -> unpacked("la;lb;lc;r3,3"));
        due("one letter beyond the place", "abcabca", () -> unpacked("la;lb;lc;r3,4"));
        due("a repeat of a repeat", "ababbabb", () -> unpacked("la;lb;r2,2;r1,1;r3,3"));
    }

    private static String unpacked(String works) {
        SlideMills x = Mills.after(works);
        x.unpack();
        return Mills.textOf(x);
    }

    private void fullSack() {
        of(0, "The sack has at most 40 tokens");
        SlideMills x = full();
        due("40", 40, x::tokens);
        due("the last one", 3, () -> x.letterOf(39));
        x.takeLast();
        due("the 40th, a repeat", 40, () -> x.addRepeat(5, 6));
        due("it stands there", 5, () -> x.distanceOf(39));
        x.takeLast();
        due("the 40th, a letter", 40, () -> x.addToken(1));
        of(12, "if the sack has 40");
        for (int letter = 0; letter <= 3; letter++) {
            int one = letter;
            refused("letter " + one, STATE, SackEdges::full, y -> y.addToken(one));
        }
        of(13, "if the sack has 40");
        refused("least", STATE, SackEdges::full, y -> y.addRepeat(1, 1));
        refused("most", STATE, SackEdges::fullOfRepeats, y -> y.addRepeat(39, 40));
        of(0, "The sack has at most 40 tokens");
        due("a letter by works", 0, () -> Mills.doWorks(x, "la"));
        due("why", 4, x::whyStopped);
        due("a repeat by works", 1, () -> Mills.doWorks(x, "-;r1,1"));
        due("why", 4, x::whyStopped);
        due("no token came", 40, x::tokens);
        x.takeLast();
        due("the 40th by works", 1, () -> Mills.doWorks(x, "r1,1"));
        due("40", 40, x::tokens);
        x.takeLast();
        due("the 40th by works, and one more", 1, () -> Mills.doWorks(x, "la;la"));
        due("40", 40, x::tokens);
        SlideMills packed = Mills.withText(Mills.times(10, "abcd"));
        packed.setWindow(3);
        for (int way = 0; way <= 2; way++) {
            int by = way;
            due("40 by packing", 40, () -> packed.pack(by));
            due("the same sack", Mills.times(10, "abcd"), () -> Mills.sackOf(packed));
        }
        due("packing makes room", 5, () -> {
            SlideMills y = full();
            Mills.doWorks(y, "+abca;p0");
            return y.addToken(0);
        });
    }

    private void taking() {
        of(14, "Takes the last token out of the sack", "Returns how many are left");
        SlideMills x = full();
        for (int left = 39; left >= 0; left--) {
            int due = left;
            due("of " + (due + 1), due, x::takeLast);
        }
        due("empty sack", "", () -> Mills.sackOf(x));
        due("one comes in front", 1, () -> x.addToken(2));
        due("sack", "c", () -> Mills.sackOf(x));
        of(14, "if it is empty");
        refused("taking", STATE, SlideMills::new, SlideMills::takeLast);
        refused("taking", STATE, () -> Mills.after("+abcabc;la;e"), SlideMills::takeLast);
        refused("taking", STATE, SackEdges::takenOut, SlideMills::takeLast);
    }

    private static SlideMills takenOut() {
        SlideMills x = Mills.after("r1,2");
        x.takeLast();
        return x;
    }

    private void emptying() {
        of(15, "Makes the sack empty", "Returns how many tokens it had");
        due("of 0", 0, new SlideMills()::emptySack);
        due("of 1", 1, Mills.after("la")::emptySack);
        SlideMills x = full();
        due("of 40", 40, x::emptySack);
        due("then", 0, x::tokens);
        due("again", 0, x::emptySack);
        due("no token", INDEX, () -> x.lengthOf(0));
        due("a token comes in front", 1, () -> x.addRepeat(7, 8));
        due("sack", "<7,8>", () -> Mills.sackOf(x));
        due("the text stays", 3, Mills.after("+abc;la;e")::textLength);
    }

    private void looking() {
        of(32, "Returns the number of tokens of the sack");
        due("none", 0, new SlideMills()::tokens);
        due("one", 1, Mills.after("r39,40")::tokens);
        due("40", 40, full()::tokens);
        SlideMills x = Mills.after("r39,40;ld;r1,1");
        of(33, "Tells whether a token is a repeat", "- `token`: from 0", "Returns true if it is");
        due("first", true, () -> x.isRepeat(0));
        due("letter", false, () -> x.isRepeat(1));
        due("last", true, () -> x.isRepeat(2));
        due("last of 40", false, () -> full().isRepeat(39));
        of(34, "Returns the letter of a token", "- `token`: from 0", "Returns the letter.");
        due("letter", 3, () -> x.letterOf(1));
        due("the only one", 0, () -> Mills.after("la").letterOf(0));
        due("last of 40", 3, () -> full().letterOf(39));
        of(35, "Returns the distance of a token", "- `token`: from 0", "Returns the distance.");
        due("farthest", 39, () -> x.distanceOf(0));
        due("nearest", 1, () -> x.distanceOf(2));
        due("last of 40", 39, () -> fullOfRepeats().distanceOf(39));
        of(36, "Returns how many letters a token stands for", "- `token`: from 0", "Returns how many, 1 for a letter");
        due("longest", 40, () -> x.lengthOf(0));
        due("letter", 1, () -> x.lengthOf(1));
        due("shortest", 1, () -> x.lengthOf(2));
        due("letter 0", 1, () -> Mills.after("la").lengthOf(0));
        due("last of 40", 40, () -> fullOfRepeats().lengthOf(39));
        of(34, "if it is a repeat");
        refused("a repeat", STATE, () -> Mills.after("r39,40;ld;r1,1"), y -> y.letterOf(0));
        refused("the last one", STATE, SackEdges::fullOfRepeats, y -> y.letterOf(39));
        of(35, "if it is a letter");
        refused("a letter", STATE, () -> Mills.after("r39,40;ld;r1,1"), y -> y.distanceOf(1));
        refused("the last one", STATE, SackEdges::full, y -> y.distanceOf(39));
        noSuchToken(SlideMills::new, -1, 0, 1);
        noSuchToken(SackEdges::takenOut, 0);
        noSuchToken(() -> Mills.after("r39,40;ld;r1,1"), outOf(0, 2));
        noSuchToken(SackEdges::full, outOf(0, 39));
        noSuchToken(SackEdges::fullOfRepeats, outOf(0, 39));
    }

    private void noSuchToken(Making making, int... tokens) {
        of(33, "if there is no such token");
        refusedNumbers("token", INDEX, making, SlideMills::isRepeat, tokens);
        of(34, "if there is no such token");
        refusedNumbers("token", INDEX, making, SlideMills::letterOf, tokens);
        of(35, "if there is no such token");
        refusedNumbers("token", INDEX, making, SlideMills::distanceOf, tokens);
        of(36, "if there is no such token");
        refusedNumbers("token", INDEX, making, SlideMills::lengthOf, tokens);
    }

    private void sums() {
        of(37, "Returns the prices of all tokens of the sack, together, by the settings of now");
        due("none", 0, new SlideMills()::sackCost);
        SlideMills letters = full();
        due("40 letters", 120, letters::sackCost);
        letters.setLetterPrice(9);
        due("40 dearest letters", 360, letters::sackCost);
        letters.setRepeatPrice(20);
        due("no repeat", 360, letters::sackCost);
        SlideMills repeats = fullOfRepeats();
        due("40 repeats", 200, repeats::sackCost);
        repeats.setRepeatPrice(20);
        due("40 dearest repeats", 800, repeats::sackCost);
        repeats.setLetterPrice(1);
        due("no letter", 800, repeats::sackCost);
        of(38, "Returns the number of letters for which the tokens of the sack stand, together, possible or not");
        due("none", 0, new SlideMills()::sackLetters);
        due("40 letters", 40, letters::sackLetters);
        due("40 of 40", 1600, repeats::sackLetters);
        due("one, not possible", 1, Mills.after("r1,1")::sackLetters);
        due("41, not possible", 41, Mills.after("la;r1,40")::sackLetters);
    }

    private void expectWrong(String works, int token, int reason) {
        SlideMills x = Mills.after(works);
        due(works + ", token", token, x::wrongToken);
        due(works + ", reason", reason, x::wrongReason);
        due(works + ", reason alone", reason, Mills.after(works)::wrongReason);
        if (reason == 0) {
            due(works + ", letters", x.sackLetters(), x::unpack);
            due(works + ", by works", false, Mills.after(works + ";u")::hasStopped);
        } else {
            refused(works, STATE, () -> Mills.after(works), SlideMills::unpack);
            due(works + ", by works", reason, Mills.after(works + ";u")::whyStopped);
        }
    }

    private void tooFar() {
        of(0, "It is not possible for the first token that is wrong, for the first reason that holds for it");
        expectWrong("r1,1", 0, 1);
        expectWrong("r39,1", 0, 1);
        expectWrong("r1,40", 0, 1);
        expectWrong("la;r1,1", -1, 0);
        expectWrong("la;r2,1", 1, 1);
        expectWrong("la;r1,37;r38,1", -1, 0);
        expectWrong("la;r1,37;r39,1", 2, 1);
        expectWrong("la;r1,38;r39,1", -1, 0);
        expectWrong("la;r1,38;r38,1", -1, 0);
        of(39, "Returns the first token that is wrong; -1 if none is");
        expectWrong("la;lb;lc;r3,1;r5,1", 4, 1);
        expectWrong("la;lb;lc;r3,2;r5,1", -1, 0);
    }

    private void tooMany() {
        of(40, "Returns the reason for which the first token that is wrong is so, 1 or 2; 0 if none is");
        expectWrong("la;r1,39", -1, 0);
        expectWrong("la;r1,40", 1, 2);
        expectWrong("la;r1,38;lb", -1, 0);
        expectWrong("la;r1,39;lb", 2, 2);
        expectWrong("la;r1,39;r1,1", 2, 2);
        expectWrong("la;r1,39;r39,1", 2, 2);
        expectWrong("la;r1,38;r1,1", -1, 0);
        expectWrong("la;r1,38;r1,2", 2, 2);
        SlideMills full = full();
        due("40 letters", -1, full::wrongToken);
        due("40 letters", 0, full::wrongReason);
        due("40 letters", 40, full::unpack);
        due("an empty sack", -1, new SlideMills()::wrongToken);
        due("an empty sack", 0, new SlideMills()::wrongReason);
        full.takeLast();
        full.addRepeat(39, 1);
        due("the 40th token, 39 back", -1, full::wrongToken);
        due("the 40th token, 39 back", 40, full::unpack);
        due("it is the first letter", 0, () -> full.letterAt(39));
        full.takeLast();
        full.addRepeat(39, 2);
        due("the 40th token is too long", 39, full::wrongToken);
        due("the 40th token is too long", 2, full::wrongReason);
        full.undo();
        full.takeLast();
        full.addRepeat(39, 1);
        due("the 40th token is too far", 38, full::wrongToken);
        due("the 40th token is too far", 1, full::wrongReason);
    }

    private void firstWrong() {
        of(40, "1 or 2; 0 if none is");
        expectWrong("la;r2,40", 1, 1);
        expectWrong("la;lb;r3,39", 2, 1);
        expectWrong("la;lb;r2,39", 2, 2);
        expectWrong("la;lb;r2,38", -1, 0);
        of(39, "Returns the first token that is wrong; -1 if none is");
        expectWrong("la;r2,1;r1,40", 1, 1);
        expectWrong("la;r1,40;r39,1", 1, 2);
        expectWrong("la;r1,40;lb", 1, 2);
        expectWrong("r1,1;la;r1,1", 0, 1);
        SlideMills x = fullOfRepeats();
        due("the first of 40", 0, x::wrongToken);
        SlideMills last = Mills.after("la;r1,40");
        last.takeLast();
        due("a wrong one is taken out", -1, last::wrongToken);
    }

    private void unpacking() {
        of(11, "Unpacks the sack; it stays", "Returns the length of the text then");
        SlideMills x = Mills.after("+abcd;lb");
        due("one letter in place of four", 1, x::unpack);
        due("text", "b", () -> Mills.textOf(x));
        due("sack", "b", () -> Mills.sackOf(x));
        due("no letter behind", INDEX, () -> x.letterAt(1));
        of(0, "To unpack means to make the text what the tokens stand for, one behind the other");
        SlideMills empty = Mills.after("+abcd");
        due("an empty sack", 0, empty::unpack);
        due("text", "", () -> Mills.textOf(empty));
        due("an empty sack by works", 0, Mills.after("+abcd;u")::textLength);
        SlideMills full = full();
        due("a full sack", 40, full::unpack);
        due("text", Mills.times(10, "abcd"), () -> Mills.textOf(full));
        of(11, "if that is not possible");
        refused("a full text stays", STATE, () -> {
            SlideMills y = full();
            Mills.doWorks(y, "u;e;r1,1");
            return y;
        }, SlideMills::unpack);
        refused("an empty text stays", STATE, () -> Mills.after("la;r2,1"), SlideMills::unpack);
    }

    private void forTheText() {
        of(41, "Returns whether unpacking would leave the text as it is");
        due("both empty", true, new SlideMills()::isForText);
        due("an empty sack", false, Mills.after("+a")::isForText);
        due("an empty text", false, Mills.after("la")::isForText);
        due("one letter", true, Mills.after("+d;ld")::isForText);
        due("another letter", false, Mills.after("+d;lc")::isForText);
        due("another last letter", false, Mills.after("+abcd;la;lb;lc;la")::isForText);
        due("another first letter", false, Mills.after("+abcd;lb;lb;lc;ld")::isForText);
        due("one letter fewer", false, Mills.after("+abab;la;lb;r2,1")::isForText);
        due("as many", true, Mills.after("+abab;la;lb;r2,2")::isForText);
        due("one letter more", false, Mills.after("+abab;la;lb;r2,3")::isForText);
        SlideMills full = full();
        due("40 and none", false, full::isForText);
        full.unpack();
        due("40 and 40", true, full::isForText);
        full.setLetter(39, 0);
        due("all but the last", false, full::isForText);
    }

    private void share() {
        of(53, "Returns its cost, as a double", "Returns how much is saved by the sack");
        due("empty", 1.0, new SlideMills()::packedShare);
        due("made empty", 1.0, Mills.after("r1,9;e")::packedShare);
        due("taken out", 1.0, takenOut()::packedShare);
        due("a letter", 1.0, Mills.after("la")::packedShare);
        due("dearer than letters", 5.0 / 3.0, Mills.after("r1,1")::packedShare);
        due("cheaper than letters", 5.0 / 6.0, Mills.after("r1,2")::packedShare);
        due("letters and a repeat", 8.0 / 9.0, Mills.after("la;r1,2")::packedShare);
        SlideMills x = fullOfRepeats();
        x.setLetterPrice(9);
        x.setRepeatPrice(1);
        due("the least", 40.0 / 14400.0, x::packedShare);
        SlideMills y = new SlideMills();
        for (int token = 0; token < 40; token++) {
            y.addRepeat(1, 1);
        }
        y.setLetterPrice(1);
        y.setRepeatPrice(20);
        due("the most", 20.0, y::packedShare);
    }
}
