/** What the tests do with objects of SlideMills again and again. */
final class Mills {
    private Mills() {
    }

    static SlideMills withText(String letters) {
        SlideMills x = new SlideMills();
        addLetters(x, letters);
        return x;
    }

    static void addLetters(SlideMills x, String letters) {
        for (int i = 0; i < letters.length(); i++) {
            x.addLetter(letters.charAt(i) - 'a');
        }
    }

    static String textOf(SlideMills x) {
        StringBuilder text = new StringBuilder();
        for (int i = 0; i < x.textLength(); i++) {
            text.append((char) ('a' + x.letterAt(i)));
        }
        return text.toString();
    }

    static String sackOf(SlideMills x) {
        StringBuilder sack = new StringBuilder();
        for (int i = 0; i < x.tokens(); i++) {
            if (x.isRepeat(i)) {
                sack.append('<').append(x.distanceOf(i)).append(',').append(x.lengthOf(i)).append('>');
            } else {
                sack.append((char) ('a' + x.letterOf(i)));
            }
        }
        return sack.toString();
    }

    static String packed(SlideMills x, int way) {
        x.pack(way);
        return sackOf(x);
    }

    static void type(SlideMills x, String characters) {
        for (int i = 0; i < characters.length(); i++) {
            x.append(characters.charAt(i));
        }
    }

    static int doWorks(SlideMills x, String works) {
        type(x, works);
        return x.work();
    }

    /** An object that has done these works. */
    static SlideMills after(String works) {
        SlideMills x = new SlideMills();
        doWorks(x, works);
        return x;
    }

    static int errorIn(String characters) {
        SlideMills x = new SlideMills();
        type(x, characters);
        return x.firstError();
    }

    static String times(int count, String part) {
        return part.repeat(count);
    }

    /** The digest by the document's words, of what the other calls answer; the buffer holds these characters. */
    static long digestOf(SlideMills x, String buffer) {
        Hash hash = new Hash();
        hash.mix(x.textLength());
        for (int i = 0; i < x.textLength(); i++) {
            hash.mix(x.letterAt(i));
        }
        hash.mix(x.window(), x.shortest(), x.longest(), x.tokens(), x.sackCost(), x.sackLetters(), x.wrongToken(),
                x.wrongReason(), x.isForText() ? 1 : 0, x.leastCost(), x.leastCostFromBeginning(),
                x.leastCostWith(32), x.costBy(0), x.tokensBy(0), x.costBy(1), x.tokensBy(1), x.costBy(2),
                x.tokensBy(2), x.savedStates());
        for (int i = 0; i < x.tokens(); i++) {
            hash.mix(x.isRepeat(i) ? 1 : 0, x.lengthOf(i), x.isRepeat(i) ? x.distanceOf(i) : x.letterOf(i));
        }
        for (int i = 0; i < x.textLength(); i++) {
            hash.mix(x.repeatLength(i), x.repeatLengthByPairs(i), x.repeatDistance(i));
        }
        for (int i = 0; i < 16; i++) {
            hash.mix(x.pairs(i), x.lastPlaceOf(i));
        }
        if (x.textLength() >= 2) {
            hash.mix(x.mostFrequent());
        }
        hash.mix(x.hasStopped() ? 1 : 0);
        if (x.hasStopped()) {
            hash.mix(x.stoppedPart(), x.whyStopped());
        }
        hash.mix(Double.doubleToLongBits(x.packedShare()), buffer.length());
        for (int i = 0; i < buffer.length(); i++) {
            hash.mix(buffer.charAt(i));
        }
        return hash.value;
    }

    private static final class Hash {
        private long value = 4483;

        private void mix(long... more) {
            for (long next : more) {
                value = 31 * value + next;
            }
        }
    }
}
