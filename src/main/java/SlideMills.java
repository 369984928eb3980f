/**
 * A text of letters a to d that is packed into tokens, letters and repeats of what stood ahead,
 * as ../shared/DOC.md tells it.
 */
public final class SlideMills {
    private static final int MOST_LETTERS = 40;
    private static final int MOST_TOKENS = 40;
    private static final int MOST_CHARACTERS = 60;
    private static final int MOST_SAVED = 6;
    private static final int KINDS_OF_LETTERS = 4;
    private static final int KINDS_OF_PAIRS = 16;
    private static final int WIDEST_WINDOW = 32;
    private static final int FARTHEST = 39;
    private static final int GREEDY = 0;
    private static final int LAZY = 1;
    private static final int CHEAP = 2;
    private static final int NONE = -1;
    private static final int TOO_DEAR = 1000000;
    private static final int TOO_FAR = 1;
    private static final int TOO_MANY_UNPACKED = 2;
    private static final int TOO_MANY_LETTERS = 3;
    private static final int SACK_FULL = 4;

    private final State state;
    private final State snapshot;
    private boolean hasSnapshot;
    private final History history;
    private final Works buffer;
    private final Mill mill;
    private final Packer packer;
    private final Sack trial;
    private final Unpacking unpacking;

    public SlideMills() {
        state = new State();
        snapshot = new State();
        hasSnapshot = false;
        history = new History();
        buffer = new Works();
        mill = new Mill(state.text, state.settings);
        packer = new Packer(mill);
        trial = new Sack();
        unpacking = new Unpacking();
    }

    // ---- the text

    public int addLetter(int letter) throws IllegalArgumentException, IllegalStateException {
        if (!isLetter(letter)) {
            throw new IllegalArgumentException("letter out of range");
        }
        if (state.text.count >= MOST_LETTERS) {
            throw new IllegalStateException("the text is full");
        }
        history.push(state);
        state.text.put(letter);
        return state.text.count;
    }

    public int setLetter(int place, int letter)
            throws IndexOutOfBoundsException, IllegalArgumentException {
        if (!state.text.has(place)) {
            throw new IndexOutOfBoundsException("no such place");
        }
        if (!isLetter(letter)) {
            throw new IllegalArgumentException("letter out of range");
        }
        history.push(state);
        int before = state.text.get(place);
        state.text.replace(place, letter);
        return before;
    }

    public int emptyText() {
        history.push(state);
        int before = state.text.count;
        state.text.clear();
        return before;
    }

    // ---- settings

    public int setWindow(int places) throws IllegalArgumentException {
        if (!isBetween(places, 1, WIDEST_WINDOW)) {
            throw new IllegalArgumentException("places out of range");
        }
        history.push(state);
        int before = state.settings.window;
        state.settings.window = places;
        return before;
    }

    public int setShortest(int length) throws IllegalArgumentException {
        if (!isBetween(length, 2, 4)) {
            throw new IllegalArgumentException("length out of range");
        }
        history.push(state);
        int before = state.settings.shortest;
        state.settings.shortest = length;
        return before;
    }

    public int setLongest(int length) throws IllegalArgumentException {
        if (!isBetween(length, 4, 9)) {
            throw new IllegalArgumentException("length out of range");
        }
        history.push(state);
        int before = state.settings.longest;
        state.settings.longest = length;
        return before;
    }

    public int setLetterPrice(int price) throws IllegalArgumentException {
        if (!isBetween(price, 1, 9)) {
            throw new IllegalArgumentException("price out of range");
        }
        history.push(state);
        int before = state.settings.letterPrice;
        state.settings.letterPrice = price;
        return before;
    }

    public int setRepeatPrice(int price) throws IllegalArgumentException {
        if (!isBetween(price, 1, 20)) {
            throw new IllegalArgumentException("price out of range");
        }
        history.push(state);
        int before = state.settings.repeatPrice;
        state.settings.repeatPrice = price;
        return before;
    }

    // ---- the sack

    public int pack(int way) throws IllegalArgumentException {
        if (!isWay(way)) {
            throw new IllegalArgumentException("way out of range");
        }
        history.push(state);
        packer.packBy(way, state.sack);
        return state.sack.count;
    }

    public int unpack() throws IllegalStateException {
        unpacking.run(state.sack);
        if (unpacking.reason != 0) {
            throw new IllegalStateException("a token is wrong");
        }
        history.push(state);
        state.text.copyFrom(unpacking.letters);
        return state.text.count;
    }

    public int addToken(int letter) throws IllegalArgumentException, IllegalStateException {
        if (!isLetter(letter)) {
            throw new IllegalArgumentException("letter out of range");
        }
        if (state.sack.isFull()) {
            throw new IllegalStateException("the sack is full");
        }
        history.push(state);
        state.sack.put(0, letter);
        return state.sack.count;
    }

    public int addRepeat(int distance, int length)
            throws IllegalArgumentException, IllegalStateException {
        if (!isBetween(distance, 1, FARTHEST) || !isBetween(length, 1, MOST_LETTERS)) {
            throw new IllegalArgumentException("distance or length out of range");
        }
        if (state.sack.isFull()) {
            throw new IllegalStateException("the sack is full");
        }
        history.push(state);
        state.sack.put(distance, length);
        return state.sack.count;
    }

    public int takeLast() throws IllegalStateException {
        if (state.sack.count <= 0) {
            throw new IllegalStateException("the sack is empty");
        }
        history.push(state);
        state.sack.count--;
        return state.sack.count;
    }

    public int emptySack() {
        history.push(state);
        int before = state.sack.count;
        state.sack.clear();
        return before;
    }

    // ---- texts

    public int append(int code) throws IllegalArgumentException, IllegalStateException {
        if (!isBetween(code, 33, 126)) {
            throw new IllegalArgumentException("code out of range");
        }
        if (buffer.count >= MOST_CHARACTERS) {
            throw new IllegalStateException("the buffer is full");
        }
        buffer.put(code);
        return buffer.count;
    }

    public int clearBuffer() {
        int before = buffer.count;
        buffer.clear();
        return before;
    }

    public int firstError() {
        return buffer.errorPlace();
    }

    public int work() throws IllegalArgumentException {
        if (!buffer.isComplete()) {
            throw new IllegalArgumentException("the buffer is not complete works");
        }
        history.push(state);
        int done = 0;
        int reason = 0;
        int start = 0;
        // Each part has a character at least, so there are never more parts than characters.
        for (int part = 0; part < MOST_CHARACTERS && start < buffer.count && reason == 0; part++) {
            reason = doPart(start);
            if (reason == 0) {
                done++;
                start = buffer.endOfPart(start) + 1;
            }
        }
        state.stopReason = reason;
        state.stopPart = reason == 0 ? 0 : done;
        buffer.clear();
        return done;
    }

    public boolean hasStopped() {
        return state.stopReason != 0;
    }

    public int stoppedPart() throws IllegalStateException {
        if (state.stopReason == 0) {
            throw new IllegalStateException("it did not stop");
        }
        return state.stopPart;
    }

    public int whyStopped() throws IllegalStateException {
        if (state.stopReason == 0) {
            throw new IllegalStateException("it did not stop");
        }
        return state.stopReason;
    }

    // ---- undo, the snapshot

    public int undo() throws IllegalStateException {
        if (history.count <= 0) {
            throw new IllegalStateException("no saved state");
        }
        history.popInto(state);
        return history.count;
    }

    public int keep() {
        snapshot.copyFrom(state);
        hasSnapshot = true;
        return state.text.count;
    }

    public int restore() throws IllegalStateException {
        if (!hasSnapshot) {
            throw new IllegalStateException("no snapshot");
        }
        history.push(state);
        state.copyFrom(snapshot);
        return state.text.count;
    }

    public int savedStates() {
        return history.count;
    }

    // ---- looks at the text and settings; nothing is changed

    public int textLength() {
        return state.text.count;
    }

    public int letterAt(int place) throws IndexOutOfBoundsException {
        if (!state.text.has(place)) {
            throw new IndexOutOfBoundsException("no such place");
        }
        return state.text.get(place);
    }

    public int window() {
        return state.settings.window;
    }

    public int shortest() {
        return state.settings.shortest;
    }

    public int longest() {
        return state.settings.longest;
    }

    // ---- looks at the sack

    public int tokens() {
        return state.sack.count;
    }

    public boolean isRepeat(int token) throws IndexOutOfBoundsException {
        if (!state.sack.has(token)) {
            throw new IndexOutOfBoundsException("no such token");
        }
        return state.sack.distance(token) != 0;
    }

    public int letterOf(int token) throws IndexOutOfBoundsException, IllegalStateException {
        if (!state.sack.has(token)) {
            throw new IndexOutOfBoundsException("no such token");
        }
        if (state.sack.distance(token) != 0) {
            throw new IllegalStateException("it is a repeat");
        }
        return state.sack.value(token);
    }

    public int distanceOf(int token) throws IndexOutOfBoundsException, IllegalStateException {
        if (!state.sack.has(token)) {
            throw new IndexOutOfBoundsException("no such token");
        }
        if (state.sack.distance(token) == 0) {
            throw new IllegalStateException("it is a letter");
        }
        return state.sack.distance(token);
    }

    public int lengthOf(int token) throws IndexOutOfBoundsException {
        if (!state.sack.has(token)) {
            throw new IndexOutOfBoundsException("no such token");
        }
        return state.sack.length(token);
    }

    public int sackCost() {
        return state.sack.cost(state.settings);
    }

    public int sackLetters() {
        return state.sack.letters();
    }

    public int wrongToken() {
        unpacking.run(state.sack);
        return unpacking.wrong;
    }

    public int wrongReason() {
        unpacking.run(state.sack);
        return unpacking.reason;
    }

    public boolean isForText() {
        unpacking.run(state.sack);
        return unpacking.reason == 0 && unpacking.letters.isLike(state.text);
    }

    // ---- repeats, costs; nothing is changed

    public int repeatLength(int place) throws IndexOutOfBoundsException {
        if (!state.text.has(place)) {
            throw new IndexOutOfBoundsException("no such place");
        }
        return mill.longestAt(place, state.settings.window);
    }

    public int repeatLengthByPairs(int place) throws IndexOutOfBoundsException {
        if (!state.text.has(place)) {
            throw new IndexOutOfBoundsException("no such place");
        }
        mill.dictionary.read(state.text);
        return mill.longestByPairs(place);
    }

    public int repeatDistance(int place) throws IndexOutOfBoundsException {
        if (!state.text.has(place)) {
            throw new IndexOutOfBoundsException("no such place");
        }
        int length = mill.longestAt(place, state.settings.window);
        return mill.leastDistance(place, length);
    }

    public int costBy(int way) throws IllegalArgumentException {
        if (!isWay(way)) {
            throw new IllegalArgumentException("way out of range");
        }
        packer.packBy(way, trial);
        return trial.cost(state.settings);
    }

    public int tokensBy(int way) throws IllegalArgumentException {
        if (!isWay(way)) {
            throw new IllegalArgumentException("way out of range");
        }
        packer.packBy(way, trial);
        return trial.count;
    }

    public int leastCost() {
        return packer.leastFromEnd(state.settings.window);
    }

    public int leastCostFromBeginning() {
        return packer.leastFromBeginning();
    }

    public int leastCostWith(int places) throws IllegalArgumentException {
        if (!isBetween(places, 1, WIDEST_WINDOW)) {
            throw new IllegalArgumentException("places out of range");
        }
        return packer.leastFromEnd(places);
    }

    // ---- pairs

    public int pairs(int pair) throws IllegalArgumentException {
        if (!isPair(pair)) {
            throw new IllegalArgumentException("pair out of range");
        }
        mill.dictionary.read(state.text);
        return mill.dictionary.times(pair);
    }

    public int lastPlaceOf(int pair) throws IllegalArgumentException {
        if (!isPair(pair)) {
            throw new IllegalArgumentException("pair out of range");
        }
        mill.dictionary.read(state.text);
        return mill.dictionary.lastPlace(pair);
    }

    public int mostFrequent() throws IllegalStateException {
        if (state.text.count < 2) {
            throw new IllegalStateException("the text has no pair");
        }
        mill.dictionary.read(state.text);
        return mill.dictionary.commonest();
    }

    public double packedShare() {
        int whole = state.settings.letterPrice * state.sack.letters();
        if (state.sack.count <= 0 || whole <= 0) {
            return 1.0;
        }
        return (double) state.sack.cost(state.settings) / (double) whole;
    }

    public long digest() {
        long hash = 4483L;
        hash = hashText(hash);
        hash = mix(hash, state.settings.window);
        hash = mix(hash, state.settings.shortest);
        hash = mix(hash, state.settings.longest);
        hash = hashSack(hash);
        hash = hashCosts(hash);
        hash = mix(hash, history.count);
        hash = hashTokens(hash);
        hash = hashRepeats(hash);
        hash = hashPairs(hash);
        hash = hashStop(hash);
        hash = mix(hash, bitsOf(packedShare()));
        return hashBuffer(hash);
    }

    private static boolean isBetween(int number, int least, int most) {
        return number >= least && number <= most;
    }

    private static boolean isLetter(int letter) {
        return letter >= 0 && letter < KINDS_OF_LETTERS;
    }

    private static boolean isPair(int pair) {
        return pair >= 0 && pair < KINDS_OF_PAIRS;
    }

    private static boolean isWay(int way) {
        return way >= GREEDY && way <= CHEAP;
    }

    /** Does the part of the buffer that starts there; answers 0, or why it is not possible. */
    private int doPart(int start) {
        switch (buffer.codeAt(start)) {
            case '+':
                return putLetters(start + 1, buffer.endOfPart(start));
            case '-':
                state.text.clear();
                return 0;
            case 'p':
                packer.packBy(buffer.codeAt(start + 1) - '0', state.sack);
                return 0;
            case 'u':
                return unpackIfPossible();
            case 'e':
                state.sack.clear();
                return 0;
            case 'l':
                return putToken(0, buffer.codeAt(start + 1) - 'a');
            case 'r':
                int comma = buffer.endOfNumber(start + 1);
                return putToken(buffer.number(start + 1), buffer.number(comma + 1));
            default:
                return 0;
        }
    }

    private int putLetters(int from, int end) {
        if (end - from > MOST_LETTERS - state.text.count) {
            return TOO_MANY_LETTERS;
        }
        for (int index = from; index < end; index++) {
            state.text.put(buffer.codeAt(index) - 'a');
        }
        return 0;
    }

    private int putToken(int distance, int value) {
        if (state.sack.isFull()) {
            return SACK_FULL;
        }
        state.sack.put(distance, value);
        return 0;
    }

    private int unpackIfPossible() {
        unpacking.run(state.sack);
        if (unpacking.reason == 0) {
            state.text.copyFrom(unpacking.letters);
        }
        return unpacking.reason;
    }

    private static long mix(long hash, long value) {
        return 31L * hash + value;
    }

    private static long mixTruth(long hash, boolean value) {
        return mix(hash, value ? 1L : 0L);
    }

    private long hashText(long before) {
        long hash = mix(before, state.text.count);
        for (int place = 0; place < state.text.count; place++) {
            hash = mix(hash, state.text.get(place));
        }
        return hash;
    }

    private long hashSack(long before) {
        long hash = mix(before, state.sack.count);
        hash = mix(hash, sackCost());
        hash = mix(hash, sackLetters());
        hash = mix(hash, wrongToken());
        hash = mix(hash, wrongReason());
        return mixTruth(hash, isForText());
    }

    private long hashCosts(long before) {
        long hash = mix(before, packer.leastFromEnd(state.settings.window));
        hash = mix(hash, packer.leastFromBeginning());
        hash = mix(hash, packer.leastFromEnd(WIDEST_WINDOW));
        for (int way = GREEDY; way <= CHEAP; way++) {
            packer.packBy(way, trial);
            hash = mix(hash, trial.cost(state.settings));
            hash = mix(hash, trial.count);
        }
        return hash;
    }

    private long hashTokens(long before) {
        long hash = before;
        for (int token = 0; token < state.sack.count; token++) {
            int distance = state.sack.distance(token);
            hash = mixTruth(hash, distance != 0);
            hash = mix(hash, state.sack.length(token));
            hash = mix(hash, distance != 0 ? distance : state.sack.value(token));
        }
        return hash;
    }

    private long hashRepeats(long before) {
        long hash = before;
        mill.dictionary.read(state.text);
        for (int place = 0; place < state.text.count; place++) {
            int length = mill.longestAt(place, state.settings.window);
            hash = mix(hash, length);
            hash = mix(hash, mill.longestByPairs(place));
            hash = mix(hash, mill.leastDistance(place, length));
        }
        return hash;
    }

    private long hashPairs(long before) {
        long hash = before;
        mill.dictionary.read(state.text);
        for (int pair = 0; pair < KINDS_OF_PAIRS; pair++) {
            hash = mix(hash, mill.dictionary.times(pair));
            hash = mix(hash, mill.dictionary.lastPlace(pair));
        }
        return state.text.count < 2 ? hash : mix(hash, mill.dictionary.commonest());
    }

    private long hashStop(long before) {
        long hash = mixTruth(before, hasStopped());
        if (state.stopReason == 0) {
            return hash;
        }
        hash = mix(hash, state.stopPart);
        return mix(hash, state.stopReason);
    }

    private long hashBuffer(long before) {
        long hash = mix(before, buffer.count);
        for (int index = 0; index < buffer.count; index++) {
            hash = mix(hash, buffer.codeAt(index));
        }
        return hash;
    }

    /**
     * The bits of a share that is more than 0, as Double.doubleToLongBits tells them: the language
     * leaves no such call, and halving and doubling lose nothing.
     */
    private static long bitsOf(double share) {
        double part = share;
        long exponent = 1023L;
        for (int step = 0; step < 64 && part >= 2.0; step++) {
            part = part / 2.0;
            exponent++;
        }
        for (int step = 0; step < 64 && part < 1.0; step++) {
            part = part * 2.0;
            exponent--;
        }
        long fraction = (long) ((part - 1.0) * 4503599627370496.0);
        return (exponent << 52) + fraction;
    }

    /** A row of letters. */
    private static final class Letters {
        final int[] row;
        int count;

        Letters() {
            row = new int[MOST_LETTERS];
            count = 0;
        }

        boolean has(int place) {
            return place >= 0 && place < count;
        }

        int get(int place) {
            return place >= 0 && place < count && place < row.length ? row[place] : 0;
        }

        void put(int letter) {
            if (count >= 0 && count < row.length) {
                row[count] = letter;
                count++;
            }
        }

        void replace(int place, int letter) {
            if (place >= 0 && place < row.length) {
                row[place] = letter;
            }
        }

        void clear() {
            count = 0;
        }

        boolean isLike(Letters other) {
            if (count != other.count) {
                return false;
            }
            for (int place = 0; place < count; place++) {
                if (get(place) != other.get(place)) {
                    return false;
                }
            }
            return true;
        }

        void copyFrom(Letters other) {
            for (int place = 0; place < row.length && place < other.row.length; place++) {
                row[place] = other.row[place];
            }
            count = other.count;
        }
    }

    /** The settings of the mill. */
    private static final class Settings {
        int window;
        int shortest;
        int longest;
        int letterPrice;
        int repeatPrice;

        Settings() {
            window = 16;
            shortest = 3;
            longest = 8;
            letterPrice = 3;
            repeatPrice = 5;
        }

        void copyFrom(Settings other) {
            window = other.window;
            shortest = other.shortest;
            longest = other.longest;
            letterPrice = other.letterPrice;
            repeatPrice = other.repeatPrice;
        }
    }

    /** A row of tokens; a letter has the distance 0 and itself as its value, a repeat its length. */
    private static final class Sack {
        final int[] distances;
        final int[] values;
        int count;

        Sack() {
            distances = new int[MOST_TOKENS];
            values = new int[MOST_TOKENS];
            count = 0;
        }

        boolean has(int token) {
            return token >= 0 && token < count;
        }

        boolean isFull() {
            return count >= MOST_TOKENS;
        }

        int distance(int token) {
            return token >= 0 && token < distances.length ? distances[token] : 0;
        }

        int value(int token) {
            return token >= 0 && token < values.length ? values[token] : 0;
        }

        int length(int token) {
            return distance(token) == 0 ? 1 : value(token);
        }

        void put(int distance, int value) {
            if (count >= 0 && count < distances.length && count < values.length) {
                distances[count] = distance;
                values[count] = value;
                count++;
            }
        }

        void clear() {
            count = 0;
        }

        int cost(Settings settings) {
            int sum = 0;
            for (int token = 0; token < count; token++) {
                sum += distance(token) == 0 ? settings.letterPrice : settings.repeatPrice;
            }
            return sum;
        }

        int letters() {
            int sum = 0;
            for (int token = 0; token < count; token++) {
                sum += length(token);
            }
            return sum;
        }

        void copyFrom(Sack other) {
            for (int token = 0; token < other.count; token++) {
                if (token < distances.length && token < values.length) {
                    distances[token] = other.distance(token);
                    values[token] = other.value(token);
                }
            }
            count = other.count;
        }
    }

    /** All that undo and the snapshot bring back; the reason 0 tells that nothing stopped. */
    private static final class State {
        final Letters text;
        final Sack sack;
        final Settings settings;
        int stopPart;
        int stopReason;

        State() {
            text = new Letters();
            sack = new Sack();
            settings = new Settings();
            stopPart = 0;
            stopReason = 0;
        }

        void copyFrom(State other) {
            text.copyFrom(other.text);
            sack.copyFrom(other.sack);
            settings.copyFrom(other.settings);
            stopPart = other.stopPart;
            stopReason = other.stopReason;
        }
    }

    /** The saved states, in a ring, so that the room of the oldest one is used again. */
    private static final class History {
        final State[] ring;
        int next;
        int count;

        History() {
            ring = new State[MOST_SAVED];
            for (int slot = 0; slot < ring.length; slot++) {
                ring[slot] = new State();
            }
            next = 0;
            count = 0;
        }

        void push(State state) {
            if (next >= 0 && next < ring.length && ring[next] != null) {
                ring[next].copyFrom(state);
            }
            next = next >= MOST_SAVED - 1 ? 0 : next + 1;
            count = count >= MOST_SAVED ? MOST_SAVED : count + 1;
        }

        void popInto(State state) {
            next = next <= 0 ? MOST_SAVED - 1 : next - 1;
            count--;
            if (next >= 0 && next < ring.length && ring[next] != null) {
                state.copyFrom(ring[next]);
            }
        }
    }

    /** Where and how often each pair occurs in a text. */
    private static final class Dictionary {
        final int[] counts;
        final int[] lastPlaces;
        final int[] earlierPlaces;

        Dictionary() {
            counts = new int[KINDS_OF_PAIRS];
            lastPlaces = new int[KINDS_OF_PAIRS];
            earlierPlaces = new int[MOST_LETTERS];
        }

        void read(Letters text) {
            for (int pair = 0; pair < KINDS_OF_PAIRS; pair++) {
                counts[pair] = 0;
                lastPlaces[pair] = NONE;
            }
            for (int place = 0; place + 1 < text.count; place++) {
                note(KINDS_OF_LETTERS * text.get(place) + text.get(place + 1), place);
            }
        }

        private void note(int pair, int place) {
            if (pair >= 0 && pair < KINDS_OF_PAIRS && place >= 0 && place < earlierPlaces.length) {
                earlierPlaces[place] = lastPlaces[pair];
                lastPlaces[pair] = place;
                counts[pair]++;
            }
        }

        int times(int pair) {
            return pair >= 0 && pair < counts.length ? counts[pair] : 0;
        }

        int lastPlace(int pair) {
            return pair >= 0 && pair < lastPlaces.length ? lastPlaces[pair] : NONE;
        }

        /** The place before this one at which the same pair occurs. */
        int earlierPlace(int place) {
            return place >= 0 && place < earlierPlaces.length ? earlierPlaces[place] : NONE;
        }

        int commonest() {
            int best = 0;
            for (int pair = 1; pair < KINDS_OF_PAIRS; pair++) {
                if (counts[pair] > counts[best]) {
                    best = pair;
                }
            }
            return best;
        }
    }

    /** Finds the repeats that are possible in the text. */
    private static final class Mill {
        final Letters text;
        final Settings settings;
        final Dictionary dictionary;

        Mill(Letters millText, Settings millSettings) {
            text = millText;
            settings = millSettings;
            dictionary = new Dictionary();
        }

        /** How many letters from the place on are like those the distance ahead, up to the longest. */
        int alike(int place, int distance) {
            if (distance < 0 || distance > place) {
                return 0;
            }
            int[] row = text.row;
            int end = Math.min(Math.min(place + settings.longest, text.count), row.length);
            int behind = place;
            while (behind < end && row[behind] == row[behind - distance]) {
                behind++;
            }
            return behind - place;
        }

        int longestAt(int place, int window) {
            int best = 0;
            for (int distance = 1; distance <= window && distance <= place; distance++) {
                int length = alike(place, distance);
                if (length >= settings.shortest && length > best) {
                    best = length;
                }
            }
            return best;
        }

        /** The same by the dictionary, which has to be read before. */
        int longestByPairs(int place) {
            if (place + 1 >= text.count) {
                return 0;
            }
            int best = 0;
            int ahead = dictionary.earlierPlace(place);
            for (int step = 0; step < MOST_LETTERS && ahead != NONE; step++) {
                int length = place - ahead <= settings.window ? alike(place, place - ahead) : 0;
                if (length >= settings.shortest && length > best) {
                    best = length;
                }
                ahead = dictionary.earlierPlace(ahead);
            }
            return best;
        }

        /** The least distance of a possible repeat of this length, 0 for the length 0. */
        int leastDistance(int place, int length) {
            if (length <= 0) {
                return 0;
            }
            for (int distance = 1; distance <= settings.window && distance <= place; distance++) {
                if (alike(place, distance) >= length) {
                    return distance;
                }
            }
            return 0;
        }
    }

    /** Packs the text of a mill and tells the least costs. */
    private static final class Packer {
        final Mill mill;
        final int[] costs;

        Packer(Mill packedMill) {
            mill = packedMill;
            costs = new int[MOST_LETTERS + 1];
        }

        void packBy(int way, Sack sack) {
            sack.clear();
            if (way == CHEAP) {
                packCheaply(sack);
            } else {
                packByLongest(sack, way == LAZY);
            }
        }

        private void packByLongest(Sack sack, boolean isLazy) {
            int window = mill.settings.window;
            int place = 0;
            for (int step = 0; step < MOST_TOKENS && place < mill.text.count; step++) {
                int length = mill.longestAt(place, window);
                if (isLazy && mill.longestAt(place + 1, window) > length) {
                    length = 0;
                }
                place += putTokenAt(place, length, sack);
            }
        }

        private void packCheaply(Sack sack) {
            leastFromEnd(mill.settings.window);
            int place = 0;
            for (int step = 0; step < MOST_TOKENS && place < mill.text.count; step++) {
                place += putTokenAt(place, cheapestLength(place), sack);
            }
        }

        /** Puts a repeat of the length, or the letter if the length is 0; answers how far it goes. */
        private int putTokenAt(int place, int length, Sack sack) {
            if (length <= 0) {
                sack.put(0, mill.text.get(place));
                return 1;
            }
            sack.put(mill.leastDistance(place, length), length);
            return length;
        }

        /** The greatest length of a repeat with which a cheapest row goes on, 0 if only the letter. */
        private int cheapestLength(int place) {
            int most = mill.longestAt(place, mill.settings.window);
            for (int length = most; length >= mill.settings.shortest; length--) {
                if (mill.settings.repeatPrice + costAt(place + length) == costAt(place)) {
                    return length;
                }
            }
            return 0;
        }

        private int costAt(int place) {
            return place >= 0 && place < costs.length ? costs[place] : 0;
        }

        private void setCost(int place, int cost) {
            if (place >= 0 && place < costs.length) {
                costs[place] = cost;
            }
        }

        /** Tells each place the least cost of all from it on, and answers that of the first one. */
        int leastFromEnd(int window) {
            setCost(mill.text.count, 0);
            for (int place = mill.text.count - 1; place >= 0; place--) {
                int best = mill.settings.letterPrice + costAt(place + 1);
                // Where a long repeat is possible, so is each shorter one.
                int most = mill.longestAt(place, window);
                for (int length = mill.settings.shortest; length <= most; length++) {
                    best = Math.min(best, mill.settings.repeatPrice + costAt(place + length));
                }
                setCost(place, best);
            }
            return costAt(0);
        }

        /** Tells each place the least cost of all ahead of it, and answers that of the end. */
        int leastFromBeginning() {
            for (int place = 0; place < costs.length; place++) {
                costs[place] = place == 0 ? 0 : TOO_DEAR;
            }
            for (int place = 0; place < mill.text.count; place++) {
                lower(place + 1, costAt(place) + mill.settings.letterPrice);
                int most = mill.longestAt(place, mill.settings.window);
                for (int length = mill.settings.shortest; length <= most; length++) {
                    lower(place + length, costAt(place) + mill.settings.repeatPrice);
                }
            }
            return costAt(mill.text.count);
        }

        private void lower(int place, int cost) {
            setCost(place, Math.min(costAt(place), cost));
        }
    }

    /** What the tokens of a sack stand for, up to the first one that is wrong. */
    private static final class Unpacking {
        final Letters letters;
        int wrong;
        int reason;

        Unpacking() {
            letters = new Letters();
            wrong = NONE;
            reason = 0;
        }

        void run(Sack sack) {
            letters.clear();
            wrong = NONE;
            reason = 0;
            for (int token = 0; token < sack.count && reason == 0; token++) {
                reason = whyWrong(sack.distance(token), sack.length(token));
                if (reason == 0) {
                    unpackToken(sack, token);
                } else {
                    wrong = token;
                }
            }
        }

        private int whyWrong(int distance, int length) {
            if (distance > letters.count) {
                return TOO_FAR;
            }
            return length > MOST_LETTERS - letters.count ? TOO_MANY_UNPACKED : 0;
        }

        private void unpackToken(Sack sack, int token) {
            int distance = sack.distance(token);
            if (distance == 0) {
                letters.put(sack.value(token));
                return;
            }
            int length = sack.length(token);
            for (int step = 0; step < length; step++) {
                letters.put(letters.get(letters.count - distance));
            }
        }
    }

    /** The buffer, read as works; a state tells what the next character may be. */
    private static final class Works {
        private static final int ERROR = -1;
        private static final int PART = 0;
        private static final int FIRST_LETTER = 1;
        private static final int MORE_LETTERS = 2;
        private static final int WAY = 3;
        private static final int LETTER = 4;
        private static final int DISTANCE = 5;
        private static final int MORE_DISTANCE = 6;
        private static final int COMMA = 7;
        private static final int LENGTH = 8;
        private static final int MORE_LENGTH = 9;
        private static final int MORE_OF_FORTY = 10;
        private static final int END = 11;

        final int[] codes;
        int count;

        Works() {
            codes = new int[MOST_CHARACTERS];
            count = 0;
        }

        int codeAt(int index) {
            return index >= 0 && index < count && index < codes.length ? codes[index] : 0;
        }

        void put(int code) {
            if (count >= 0 && count < codes.length) {
                codes[count] = code;
                count++;
            }
        }

        void clear() {
            count = 0;
        }

        int errorPlace() {
            int state = PART;
            for (int index = 0; index < count; index++) {
                state = behind(state, codeAt(index));
                if (state == ERROR) {
                    return index;
                }
            }
            return count;
        }

        boolean isComplete() {
            int state = PART;
            for (int index = 0; index < count; index++) {
                state = behind(state, codeAt(index));
            }
            return state == MORE_LETTERS || state == MORE_LENGTH || state == MORE_OF_FORTY
                    || state == END;
        }

        /** The index of the ";" behind the part that starts there, or the length of the buffer. */
        int endOfPart(int start) {
            int end = start;
            while (end < count && codeAt(end) != ';') {
                end++;
            }
            return end;
        }

        int endOfNumber(int start) {
            int end = start;
            while (end < count && isDigit(codeAt(end), '0')) {
                end++;
            }
            return end;
        }

        int number(int start) {
            int end = endOfNumber(start);
            int sum = 0;
            for (int index = start; index < end; index++) {
                sum = 10 * sum + codeAt(index) - '0';
            }
            return sum;
        }

        private static int behind(int state, int code) {
            switch (state) {
                case PART:
                    return behindSign(code);
                case FIRST_LETTER:
                    return isLetterSign(code) ? MORE_LETTERS : ERROR;
                case MORE_LETTERS:
                    return isLetterSign(code) ? MORE_LETTERS : behindPart(code);
                case WAY:
                    return code >= '0' && code <= '2' ? END : ERROR;
                case LETTER:
                    return isLetterSign(code) ? END : ERROR;
                case DISTANCE:
                    return behindFirstOfDistance(code);
                case MORE_DISTANCE:
                    return isDigit(code, '0') ? COMMA : behindDistance(code);
                case COMMA:
                    return behindDistance(code);
                case LENGTH:
                    return behindFirstOfLength(code);
                case MORE_LENGTH:
                    return isDigit(code, '0') ? END : behindPart(code);
                case MORE_OF_FORTY:
                    return code == '0' ? END : behindPart(code);
                case END:
                    return behindPart(code);
                default:
                    return ERROR;
            }
        }

        private static int behindSign(int code) {
            switch (code) {
                case '+':
                    return FIRST_LETTER;
                case '-':
                case 'u':
                case 'e':
                    return END;
                case 'p':
                    return WAY;
                case 'l':
                    return LETTER;
                case 'r':
                    return DISTANCE;
                default:
                    return ERROR;
            }
        }

        private static int behindPart(int code) {
            return code == ';' ? PART : ERROR;
        }

        private static int behindDistance(int code) {
            return code == ',' ? LENGTH : ERROR;
        }

        private static int behindFirstOfDistance(int code) {
            if (!isDigit(code, '1')) {
                return ERROR;
            }
            return code <= '3' ? MORE_DISTANCE : COMMA;
        }

        private static int behindFirstOfLength(int code) {
            if (!isDigit(code, '1')) {
                return ERROR;
            }
            if (code == '4') {
                return MORE_OF_FORTY;
            }
            return code <= '3' ? MORE_LENGTH : END;
        }

        private static boolean isLetterSign(int code) {
            return code >= 'a' && code <= 'd';
        }

        private static boolean isDigit(int code, int least) {
            return code >= least && code <= '9';
        }
    }
}
