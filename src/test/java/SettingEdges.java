/** The settings: promises 5 to 9 and 29 to 31. */
final class SettingEdges extends Edges {
    SettingEdges(Sentences doc) {
        super(doc);
    }

    void all() {
        of(5, "Changes the window", "Returns the previous window", "if places is out of range");
        setting(5, "- `places`: 1 to 32", 1, 32, 16, SlideMills::setWindow);
        of(6, "Changes the shortest repeat", "Returns the previous one", "if length is out of range");
        setting(6, "- `length`: 2 to 4", 2, 4, 3, SlideMills::setShortest);
        of(7, "Changes the longest repeat", "Returns the previous one", "if length is out of range");
        setting(7, "- `length`: 4 to 9", 4, 9, 8, SlideMills::setLongest);
        of(8, "Changes the price of a letter", "Returns the previous price", "if price is out of range");
        setting(8, "- `price`: 1 to 9", 1, 9, 3, SlideMills::setLetterPrice);
        of(9, "Changes the price of a repeat", "Returns the previous price", "if price is out of range");
        setting(9, "- `price`: 1 to 20", 1, 20, 5, SlideMills::setRepeatPrice);
        looks();
        prices();
        meeting();
    }

    private void setting(int promise, String range, int least, int most, int first, NumberCall set) {
        of(promise, range);
        due("the least, of a new object", first, () -> set.on(new SlideMills(), least));
        due("the most, of a new object", first, () -> set.on(new SlideMills(), most));
        SlideMills x = new SlideMills();
        int before = first;
        for (int number = least; number <= most; number++) {
            int now = number;
            due("to " + now, before, () -> set.on(x, now));
            due("to " + now + " again", now, () -> set.on(x, now));
            before = now;
        }
        of(promise, "out of range");
        refusedNumbers("setting", ARGUMENT, SlideMills::new, set, outOf(least, most));
        refusedNumbers("setting", ARGUMENT, () -> Mills.after("+abcabca;p0;r39,40;u"), set, outOf(least, most));
        refusedNumbers("setting", ARGUMENT, SlideMills::new, set, 0, -7, 41);
    }

    private void looks() {
        SlideMills x = new SlideMills();
        of(29, "Returns the window");
        for (int places = 1; places <= 32; places++) {
            x.setWindow(places);
            due("window", places, x::window);
        }
        due("shortest is another", 3, x::shortest);
        due("longest is another", 8, x::longest);
        of(30, "Returns the shortest repeat");
        for (int length = 2; length <= 4; length++) {
            x.setShortest(length);
            due("shortest", length, x::shortest);
        }
        due("longest is another", 8, x::longest);
        of(31, "Returns the longest repeat");
        for (int length = 4; length <= 9; length++) {
            x.setLongest(length);
            due("longest", length, x::longest);
        }
        due("shortest is another", 4, x::shortest);
        due("window is another", 32, x::window);
    }

    private void prices() {
        SlideMills x = Mills.after("la;r1,4");
        for (int price = 1; price <= 9; price++) {
            of(8, "Changes the price of a letter");
            x.setLetterPrice(price);
            due("price " + price, price + 5, x::sackCost);
        }
        for (int price = 1; price <= 20; price++) {
            of(9, "Changes the price of a repeat");
            x.setRepeatPrice(price);
            due("price " + price, 9 + price, x::sackCost);
        }
    }

    /** The shortest repeat may be as long as the longest one, and no longer. */
    private void meeting() {
        of(0, "The settings are: the window, 1 to 32, at first 16;");
        SlideMills x = Mills.withText(Mills.times(9, "a"));
        x.setShortest(4);
        x.setLongest(4);
        due("four of eight", 4, () -> x.repeatLength(1));
        due("four of four", 4, () -> x.repeatLength(5));
        due("three are too few", 0, () -> x.repeatLength(6));
        due("packed", "a<1,4><1,4>", () -> Mills.packed(x, 0));
    }
}
