/** The text: promises 1 to 4, 27 and 28. */
final class TextEdges extends Edges {
    private static final String FULL = Mills.times(10, "abcd");

    TextEdges(Sentences doc) {
        super(doc);
    }

    void all() {
        newObject();
        twoObjects();
        oneLetter();
        lastLetter();
        fullByWorks();
        fullByUnpacking();
        replacing();
        emptying();
        emptyAgain();
        looking();
    }

    private void newObject() {
        of(1, "Creates an empty text, an empty sack, settings as told above, no snapshot, an empty buffer");
        due("text", 0, new SlideMills()::textLength);
        due("no letter", INDEX, () -> new SlideMills().letterAt(0));
        due("sack", 0, new SlideMills()::tokens);
        due("no token", INDEX, () -> new SlideMills().isRepeat(0));
        due("sack is for the text", true, new SlideMills()::isForText);
        due("no snapshot", STATE, new SlideMills()::restore);
        due("no saved state", STATE, new SlideMills()::undo);
        due("saved states", 0, new SlideMills()::savedStates);
        due("buffer", 0, new SlideMills()::clearBuffer);
        due("no error", 0, new SlideMills()::firstError);
        due("no works", ARGUMENT, new SlideMills()::work);
        due("no stop", false, new SlideMills()::hasStopped);
        of(0, "The settings are: the window, 1 to 32, at first 16;");
        due("window", 16, new SlideMills()::window);
        due("shortest", 3, new SlideMills()::shortest);
        due("longest", 8, new SlideMills()::longest);
        due("price of a letter", 3, Mills.after("la")::sackCost);
        due("price of a repeat", 5, Mills.after("r1,1")::sackCost);
    }

    private void twoObjects() {
        of(1, "Creates an empty text");
        SlideMills one = Mills.withText("abc");
        SlideMills other = new SlideMills();
        one.keep();
        one.append('u');
        due("another's text", 0, other::textLength);
        due("another's snapshot", STATE, other::restore);
        due("another's buffer", 0, other::clearBuffer);
        due("another's saved states", 0, other::savedStates);
    }

    private void oneLetter() {
        for (int letter = 0; letter <= 3; letter++) {
            int one = letter;
            of(2, "- `letter`: 0 to 3");
            SlideMills x = new SlideMills();
            due("letter " + one, 1, () -> x.addLetter(one));
            due("it stands there", one, () -> x.letterAt(0));
            of(0, "Letters are a to d, told as 0 to 3");
            due("as a sign", one, () -> Mills.after("+" + "abcd".charAt(one)).letterAt(0));
        }
        of(2, "if letter is out of range");
        refusedNumbers("letter", ARGUMENT, SlideMills::new, SlideMills::addLetter, outOf(0, 3));
        refusedNumbers("letter", ARGUMENT, () -> Mills.withText("abca"), SlideMills::addLetter, outOf(0, 3));
        of(0, "If several exceptions apply");
        refusedNumbers("letter for a full text", ARGUMENT, () -> Mills.withText(FULL), SlideMills::addLetter,
                outOf(0, 3));
    }

    private void lastLetter() {
        of(2, "Puts a letter behind the text", "Returns the length then");
        SlideMills x = new SlideMills();
        for (int place = 0; place < 40; place++) {
            int before = place;
            due("behind " + before, before + 1, () -> x.addLetter(before % 4));
            due("text then", FULL.substring(0, before + 1), () -> Mills.textOf(x));
        }
        of(2, "if the text has 40 letters");
        for (int letter = 0; letter <= 3; letter++) {
            int one = letter;
            refused("letter " + one, STATE, () -> Mills.withText(FULL), y -> y.addLetter(one));
        }
        due("39 letters", 40, () -> Mills.withText(FULL.substring(1)).addLetter(3));
        x.undo();
        due("39 letters again", 40, () -> x.addLetter(2));
        due("the last one", 2, () -> x.letterAt(39));
        x.setLetter(39, 1);
        due("another last letter makes no room", STATE, () -> x.addLetter(2));
    }

    private void fullByWorks() {
        of(0, "The text has at most 40 letters, with places from 0, and is empty at first");
        SlideMills x = new SlideMills();
        due("40 letters by works", 1, () -> Mills.doWorks(x, "+" + FULL));
        due("text", FULL, () -> Mills.textOf(x));
        due("one letter more", STATE, () -> x.addLetter(0));
        due("one more by works", 0, () -> Mills.doWorks(x, "+a"));
        due("stop", 3, x::whyStopped);
        due("text", FULL, () -> Mills.textOf(x));
        SlideMills nearly = Mills.withText(FULL.substring(1));
        due("the last one by works", 1, () -> Mills.doWorks(nearly, "+d"));
        due("length", 40, nearly::textLength);
        SlideMills one = Mills.withText("a");
        due("39 more", 1, () -> Mills.doWorks(one, "+" + FULL.substring(1)));
        due("text", FULL, () -> Mills.textOf(one));
        SlideMills tooMany = Mills.withText("a");
        due("40 more", 0, () -> Mills.doWorks(tooMany, "+" + FULL));
        due("none of them", "a", () -> Mills.textOf(tooMany));
        SlideMills none = new SlideMills();
        due("41 at once", 0, () -> Mills.doWorks(none, "+" + FULL + "a"));
        due("none of them", "", () -> Mills.textOf(none));
        due("59 at once", 0, () -> Mills.doWorks(none, "+" + FULL + FULL.substring(0, 19)));
        due("none of them", "", () -> Mills.textOf(none));
    }

    private void fullByUnpacking() {
        of(0, "The text has at most 40 letters, with places from 0, and is empty at first");
        SlideMills x = Mills.after("la;lb;r2,38");
        due("40 letters", 40, x::unpack);
        due("text", Mills.times(20, "ab"), () -> Mills.textOf(x));
        due("one letter more", STATE, () -> x.addLetter(0));
        refused("41 letters", STATE, () -> Mills.after("la;lb;r2,39"), SlideMills::unpack);
        due("39 letters", 39, Mills.after("la;lb;r2,37")::unpack);
    }

    private void replacing() {
        of(3, "Replaces a letter of the text", "- `letter`: 0 to 3", "Returns the letter before", "- `place`: from 0");
        SlideMills x = Mills.withText("bc");
        due("first place", 1, () -> x.setLetter(0, 3));
        due("last place", 2, () -> x.setLetter(1, 0));
        due("text", "da", () -> Mills.textOf(x));
        due("the same again", 0, () -> x.setLetter(1, 0));
        SlideMills full = Mills.withText(FULL);
        due("last of a full text", 3, () -> full.setLetter(39, 0));
        due("first of a full text", 0, () -> full.setLetter(0, 3));
        due("text", "d" + FULL.substring(1, 39) + "a", () -> Mills.textOf(full));
        of(3, "if there is no such place");
        refusedNumbers("place", INDEX, () -> Mills.withText("bc"), (y, place) -> y.setLetter(place, 0), outOf(0, 1));
        refusedNumbers("place", INDEX, SlideMills::new, (y, place) -> y.setLetter(place, 0), -1, 0, 1);
        refusedNumbers("place", INDEX, () -> Mills.withText(FULL), (y, place) -> y.setLetter(place, 0), outOf(0, 39));
        refused("a place that was", INDEX, TextEdges::shortened, y -> y.setLetter(1, 0));
        of(3, "if letter is out of range");
        refusedNumbers("letter", ARGUMENT, () -> Mills.withText("bc"), (y, letter) -> y.setLetter(0, letter),
                outOf(0, 3));
        refusedNumbers("letter", ARGUMENT, () -> Mills.withText(FULL), (y, letter) -> y.setLetter(39, letter),
                outOf(0, 3));
        of(0, "If several exceptions apply");
        refused("neither place nor letter", INDEX, () -> Mills.withText("bc"), y -> y.setLetter(2, 4));
        refused("neither place nor letter", INDEX, SlideMills::new, y -> y.setLetter(0, -1));
        refused("neither place nor letter", INDEX, SlideMills::new, y -> y.setLetter(-1, -1));
    }

    /** A text of one letter that had more of them. */
    private static SlideMills shortened() {
        SlideMills x = Mills.withText("abc");
        x.emptyText();
        x.addLetter(3);
        return x;
    }

    private void emptying() {
        of(4, "Makes the text empty", "Returns the length that it had");
        int[] lengths = {0, 1, 39, 40};
        for (int length : lengths) {
            SlideMills x = Mills.withText(FULL.substring(0, length));
            due("of " + length, length, x::emptyText);
            due("then", 0, x::textLength);
            due("no letter", INDEX, () -> x.letterAt(0));
            due("again", 0, x::emptyText);
            due("a letter comes in front", 1, () -> x.addLetter(2));
            due("the text", "c", () -> Mills.textOf(x));
        }
        SlideMills packed = Mills.after("+abcabc;p0;-");
        due("the sack stays", "abc<3,3>", () -> Mills.sackOf(packed));
    }

    /** Nothing of a longer text is left behind the end of a shorter one. */
    private void emptyAgain() {
        of(4, "Makes the text empty");
        SlideMills x = Mills.withText("abcabcabc");
        x.emptyText();
        Mills.addLetters(x, "abcab");
        due("no repeat beyond the end", 0, () -> x.repeatLength(3));
        due("nor by the dictionary", 0, () -> x.repeatLengthByPairs(3));
        due("nor a pair", 1, () -> x.pairs(6));
        due("its last place", 1, () -> x.lastPlaceOf(6));
        due("the last pair", 3, () -> x.lastPlaceOf(1));
        x.addLetter(2);
        due("with the last letter", 3, () -> x.repeatLength(3));
    }

    private void looking() {
        of(27, "Returns the length of the text");
        due("empty", 0, new SlideMills()::textLength);
        due("one", 1, Mills.withText("d")::textLength);
        due("full", 40, Mills.withText(FULL)::textLength);
        of(28, "Returns a letter of the text", "- `place`: from 0", "Returns the letter.");
        due("the only one", 3, () -> Mills.withText("d").letterAt(0));
        due("first of a full text", 0, () -> Mills.withText(FULL).letterAt(0));
        due("last of a full text", 3, () -> Mills.withText(FULL).letterAt(39));
        of(28, "if there is no such place");
        refusedNumbers("place", INDEX, SlideMills::new, SlideMills::letterAt, -1, 0, 1);
        refusedNumbers("place", INDEX, () -> Mills.withText("d"), SlideMills::letterAt, outOf(0, 0));
        refusedNumbers("place", INDEX, () -> Mills.withText(FULL), SlideMills::letterAt, outOf(0, 39));
        refused("a place that was", INDEX, TextEdges::shortened, y -> y.letterAt(1));
    }
}
