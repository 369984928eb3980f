/** The hash of the whole state, promise 54, and the last call of an object. */
final class DigestEdges extends Edges {
    DigestEdges(Sentences doc) {
        super(doc);
    }

    void all() {
        start();
        lengthsOfText();
        stops();
        shares();
        buffers();
        fullOfAll();
        lastCall();
    }

    private void same(String what, Making making, String buffer) {
        due(what, Mills.digestOf(making.make(), buffer), () -> making.make().digest());
    }

    private void start() {
        of(54, "The hash starts at 4483", "Returns the hash");
        long hash = 4483;
        long share = Double.doubleToLongBits(1.0);
        long[] values = {0, 16, 3, 8, 0, 0, 0, -1, 0, 1, 0, 0, 0, 0, 0, 0, 0, 0, 0, 0};
        for (long value : values) {
            hash = 31 * hash + value;
        }
        for (int pair = 0; pair < 16; pair++) {
            hash = 31 * (31 * hash) - 1;
        }
        long ofNew = 31 * (31 * (31 * hash) + share);
        due("of a new object", ofNew, new SlideMills()::digest);
        due("twice the same", true, () -> {
            SlideMills x = Mills.after("+abcabc;p0");
            return x.digest() == x.digest();
        });
    }

    private void lengthsOfText() {
        of(54, "For each value v of the following list, in order, the hash becomes 31 * hash + v");
        same("no letter", SlideMills::new, "");
        same("one letter, no pair", () -> Mills.withText("d"), "");
        same("two letters", () -> Mills.withText("dc"), "");
        for (int letters = 3; letters <= 40; letters++) {
            String text = Mills.times(10, "abcd").substring(0, letters);
            same(letters + " letters", () -> Mills.withText(text), "");
        }
        same("emptied", () -> Mills.after("+abcabc;-"), "");
    }

    private void stops() {
        of(54, "For each value v of the following list, in order, the hash becomes 31 * hash + v");
        same("no stop", () -> Mills.after("+abcabc;p2"), "");
        same("at the first part", () -> Mills.after("+" + Mills.times(41, "b")), "");
        same("for the reason 1", () -> Mills.after("+abc;r1,1;u"), "");
        same("for the reason 2", () -> Mills.after("+abc;la;r1,40;u"), "");
        same("no stop any more", () -> {
            SlideMills x = Mills.after("+abc;r1,1;u");
            Mills.doWorks(x, "e");
            return x;
        }, "");
    }

    private void shares() {
        of(54, "Computes a hash of the whole state", "For each value v of the following list");
        for (int letterPrice = 1; letterPrice <= 9; letterPrice++) {
            for (int repeatPrice = 1; repeatPrice <= 20; repeatPrice++) {
                int letter = letterPrice;
                int repeat = repeatPrice;
                for (String works : new String[] {"r1,1", "r39,40", "la;lb;r2,5", "la;r1,7;r1,13;lc"}) {
                    same(works + " for " + letter + " and " + repeat, () -> {
                        SlideMills x = Mills.after(works);
                        x.setLetterPrice(letter);
                        x.setRepeatPrice(repeat);
                        return x;
                    }, "");
                }
            }
        }
    }

    private void buffers() {
        of(54, "For each value v of the following list, in order, the hash becomes 31 * hash + v");
        String most = "!~" + Mills.times(58, "+");
        for (String buffer : new String[] {"", "!", "~", "u;u", most}) {
            same("buffer " + buffer, () -> {
                SlideMills x = new SlideMills();
                Mills.type(x, buffer);
                return x;
            }, buffer);
        }
    }

    private void fullOfAll() {
        of(54, "Computes a hash of the whole state");
        String buffer = Mills.times(30, "u;");
        same("full", () -> {
            SlideMills x = Mills.withText(Mills.times(20, "ab"));
            for (int token = 0; token < 20; token++) {
                x.addRepeat(39 - token, 40 - token);
                x.addToken(token % 4);
            }
            Mills.doWorks(x, "u");
            Mills.type(x, buffer);
            return x;
        }, buffer);
    }

    private void lastCall() {
        of(0, "An object is used for at most 512 calls after it has been made");
        SlideMills x = new SlideMills();
        for (int round = 0; round < 12; round++) {
            Mills.addLetters(x, Mills.times(10, "abcd"));
            x.emptyText();
        }
        // 492 calls so far.
        for (int token = 0; token < 19; token++) {
            x.addToken(token % 4);
        }
        due("the 512th call", 20, () -> x.addRepeat(1, 1));
        due("the state then", "abcdabcdabcdabcdabc<1,1>", () -> Mills.sackOf(x));
        SlideMills y = new SlideMills();
        for (int call = 1; call < 512; call++) {
            y.digest();
        }
        due("the 512th digest", new SlideMills().digest(), y::digest);
    }
}
