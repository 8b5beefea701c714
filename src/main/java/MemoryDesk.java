/**
 * A desk with a translation memory: segments, the rows that were delivered, bands that pay,
 * translators, terms, texts and undo. The numbered promises of the document tell what each
 * call answers.
 */
public final class MemoryDesk {

    /** There is nothing to return. */
    public static final int NONE = -1;

    private static final int WORDS = 8;
    private static final int ROW_WORDS = 12;
    private static final int SEGMENTS = 10;
    private static final int MEMORY_ROWS = 30;
    private static final int TRANSLATORS = 4;
    private static final int BANDS = 5;
    private static final int SETTINGS = 2;
    private static final int HIGHEST_RATE = 99;
    private static final int HIGHEST_PROPOSAL = 9;
    private static final int FULL = 100;
    private static final int SAVED_STATES = 6;
    private static final int BUFFER_CODES = 60;
    private static final int LOWEST_CODE = 33;
    private static final int HIGHEST_CODE = 126;

    private static final int OPEN = 0;
    private static final int ASSIGNED = 1;
    private static final int DELIVERED = 2;
    private static final int REVISED = 3;

    private static final int REVISION_PERCENT = 0;
    private static final int CHANGE_PERCENT = 1;

    private static final int FIRST_RATE = 10;
    private static final int[] FIRST_PERCENTS = {10, 30, 60, 80, 100};
    private static final int FIRST_REVISION_PERCENT = 30;
    private static final int FIRST_CHANGE_PERCENT = 50;
    private static final int[] HIGHEST_SETTINGS = {100, 200};
    private static final int[] LOWEST_MATCHES = {100, 85, 70, 50};

    private static final int FLOAT_BIAS = 127;
    private static final int FLOAT_FRACTION_BITS = 23;
    private static final int DOUBLE_BIAS = 1023;
    private static final int DOUBLE_FRACTION_BITS = 52;

    private final State state = new State();
    private final History history = new History();
    private final Buffer buffer = new Buffer();

    /** Creates a desk without segments, with an empty memory and an empty buffer. */
    public MemoryDesk() {
    }

    // ---- translators, bands

    public int rate(int translator, int rate)
            throws IndexOutOfBoundsException, IllegalArgumentException {
        checkNumber(translator, TRANSLATORS);
        checkRange(rate, 1, HIGHEST_RATE);
        history.save(state);
        Translator rated = state.translators[translator];
        int previous = rated.rate;
        rated.rate = rate;
        return previous;
    }

    public int pays(int band, int percent)
            throws IndexOutOfBoundsException, IllegalArgumentException {
        checkNumber(band, BANDS);
        checkRange(percent, 0, FULL);
        history.save(state);
        Band paying = state.bands[band];
        int previous = paying.percent;
        paying.percent = percent;
        return previous;
    }

    public int set(int setting, int value)
            throws IndexOutOfBoundsException, IllegalArgumentException {
        checkNumber(setting, SETTINGS);
        checkRange(value, 0, HIGHEST_SETTINGS[setting]);
        history.save(state);
        int previous = state.settings[setting];
        state.settings[setting] = value;
        return previous;
    }

    // ---- segments

    public int assign(int segment, int translator)
            throws IndexOutOfBoundsException, IllegalStateException {
        checkNumber(segment, state.segmentCount);
        checkNumber(translator, TRANSLATORS);
        Segment assigned = state.segments[segment];
        checkState(assigned.stage == OPEN);
        history.save(state);
        assigned.stage = ASSIGNED;
        assigned.translator = translator;
        state.fixBand(assigned);
        return assigned.band;
    }

    public int deliver(int segment) throws IndexOutOfBoundsException, IllegalStateException {
        checkNumber(segment, state.segmentCount);
        Segment delivered = state.segments[segment];
        checkState(delivered.isTakenAt(ASSIGNED) && !state.hasDispute(delivered.source));
        history.save(state);
        state.takeDelivery(delivered);
        return delivered.pay;
    }

    public int revise(int segment, int translator, int changed)
            throws IndexOutOfBoundsException, IllegalArgumentException, IllegalStateException {
        checkNumber(segment, state.segmentCount);
        checkNumber(translator, TRANSLATORS);
        Segment revised = state.segments[segment];
        checkRange(changed, 0, revised.source.length);
        checkState(revised.isTakenAt(DELIVERED) && revised.translator != translator);
        history.save(state);
        state.takeRevision(revised, translator, changed);
        return revised.pay;
    }

    // ---- terms

    public int propose(int word, int translator, int proposal)
            throws IndexOutOfBoundsException, IllegalArgumentException, IllegalStateException {
        checkNumber(word, WORDS);
        checkNumber(translator, TRANSLATORS);
        checkRange(proposal, NONE, HIGHEST_PROPOSAL);
        Term term = state.terms[word];
        checkState(term.ruling == NONE);
        history.save(state);
        int previous = term.proposals[translator];
        term.proposals[translator] = proposal;
        return previous;
    }

    public int rule(int word, int proposal)
            throws IndexOutOfBoundsException, IllegalArgumentException, IllegalStateException {
        checkNumber(word, WORDS);
        checkRange(proposal, 0, HIGHEST_PROPOSAL);
        Term term = state.terms[word];
        checkState(term.ruling == NONE && term.isProposed(proposal));
        history.save(state);
        term.ruling = proposal;
        return term.otherProposals(proposal);
    }

    // ---- texts

    public int append(int code) throws IllegalArgumentException, IllegalStateException {
        checkRange(code, LOWEST_CODE, HIGHEST_CODE);
        checkState(buffer.length < BUFFER_CODES);
        buffer.codes[buffer.length] = code;
        buffer.length++;
        return buffer.length;
    }

    public int clearBuffer() {
        int previous = buffer.length;
        buffer.length = 0;
        return previous;
    }

    public int firstError() {
        return buffer.firstFault();
    }

    public int add() throws IllegalArgumentException, IllegalStateException {
        checkArgument(buffer.isComplete());
        checkState(state.segmentCount + buffer.rowCount() <= SEGMENTS);
        history.save(state);
        int from = 0;
        while (from < buffer.length && state.segmentCount < SEGMENTS) {
            int end = buffer.endOfRow(from);
            state.segments[state.segmentCount].beginWith(new Row(buffer.codes, from, end));
            state.segmentCount++;
            from = end + 1;
        }
        buffer.length = 0;
        return state.segmentCount;
    }

    public int change(int segment) throws IndexOutOfBoundsException, IllegalArgumentException {
        checkNumber(segment, state.segmentCount);
        checkArgument(buffer.isComplete() && buffer.rowCount() == 1);
        history.save(state);
        Segment changed = state.segments[segment];
        state.replaceSource(changed, new Row(buffer.codes, 0, buffer.length));
        buffer.length = 0;
        return changed.stage;
    }

    public int undo() throws IllegalStateException {
        checkState(history.length > 0);
        history.restore(state);
        return history.length;
    }

    // ---- looks; nothing is changed

    public int segment(int segment, int what)
            throws IndexOutOfBoundsException, IllegalArgumentException {
        checkNumber(segment, state.segmentCount);
        checkRange(what, 0, 11);
        Segment seen = state.segments[segment];
        switch (what) {
            case 0: return seen.source.length;
            case 1: return seen.stage;
            case 2: return seen.translator;
            case 3: return state.memory.greatestMatch(seen.source, 0);
            case 4: return state.memory.bestRow(seen.source);
            case 5: return seen.band;
            case 6: return seen.percent;
            case 7: return seen.pay;
            case 8: return seen.earlierPay;
            case 9: return seen.reviser;
            case 10: return seen.changedWords;
            default: return oneIf(state.hasDispute(seen.source));
        }
    }

    public int word(int segment, int place)
            throws IndexOutOfBoundsException, IllegalArgumentException {
        checkNumber(segment, state.segmentCount);
        checkRange(place, 0, ROW_WORDS - 1);
        return state.segments[segment].source.wordAt(place);
    }

    public int remembered(int row, int place)
            throws IndexOutOfBoundsException, IllegalArgumentException {
        checkNumber(row, state.memory.length);
        checkRange(place, 0, ROW_WORDS - 1);
        return state.memory.rows[row].wordAt(place);
    }

    public int translator(int translator, int what)
            throws IndexOutOfBoundsException, IllegalArgumentException {
        checkNumber(translator, TRANSLATORS);
        checkRange(what, 0, 6);
        Translator seen = state.translators[translator];
        switch (what) {
            case 0: return seen.rate;
            case 1: return seen.earned;
            case 2: return state.assignedTo(translator);
            case 3: return seen.deliveredWords;
            case 4: return seen.changedWords;
            case 5: return seen.correctedWords;
            default: return state.proposalsOf(translator);
        }
    }

    public int term(int word, int what)
            throws IndexOutOfBoundsException, IllegalArgumentException {
        checkNumber(word, WORDS);
        checkRange(what, 0, 7);
        Term seen = state.terms[word];
        if (what < TRANSLATORS) {
            return seen.proposals[what];
        }
        switch (what) {
            case 4: return seen.ruling;
            case 5: return oneIf(seen.isDisputed());
            case 6: return seen.unlikeProposals();
            default: return state.occurrences(word);
        }
    }

    public int band(int band, int what)
            throws IndexOutOfBoundsException, IllegalArgumentException {
        checkNumber(band, BANDS);
        checkRange(what, 0, 2);
        Band seen = state.bands[band];
        switch (what) {
            case 0: return seen.percent;
            case 1: return seen.words;
            default: return seen.money;
        }
    }

    public int count(int what) throws IllegalArgumentException {
        checkRange(what, 0, 11);
        switch (what) {
            case 0: return state.segmentCount;
            case 1: return state.segmentsAt(OPEN);
            case 2: return state.segmentsAt(ASSIGNED);
            case 3: return state.segmentsAt(DELIVERED);
            case 4: return state.segmentsAt(REVISED);
            case 5: return state.memory.length;
            case 6: return state.wordsOfAll();
            case 7: return state.deliveredWords();
            case 8: return state.earnedByAll();
            case 9: return state.disputedWords();
            case 10: return state.ruledWords();
            default: return history.length;
        }
    }

    public int setting(int setting) throws IndexOutOfBoundsException {
        checkNumber(setting, SETTINGS);
        return state.settings[setting];
    }

    // ---- what would be; nothing is changed

    public int near(int segment, int row, int what)
            throws IndexOutOfBoundsException, IllegalArgumentException {
        checkNumber(segment, state.segmentCount);
        checkNumber(row, state.memory.length);
        checkRange(what, 0, 2);
        Row source = state.segments[segment].source;
        Row remembered = state.memory.rows[row];
        switch (what) {
            case 0: return source.matchWith(remembered);
            case 1: return source.commonLength(0, remembered, 0);
            default: return floatBits(source.likenessTo(remembered));
        }
    }

    public int common(int segment, int other, int place)
            throws IndexOutOfBoundsException, IllegalArgumentException {
        checkNumber(segment, state.segmentCount);
        checkNumber(other, state.segmentCount);
        checkRange(place, 0, ROW_WORDS - 1);
        return state.segments[segment].source.commonWord(state.segments[other].source, place);
    }

    public int ifPaid(int segment, int translator) throws IndexOutOfBoundsException {
        checkNumber(segment, state.segmentCount);
        checkNumber(translator, TRANSLATORS);
        Segment seen = state.segments[segment];
        int percent = seen.stage == OPEN ? state.percentNow(seen.source) : seen.percent;
        return seen.source.length * state.translators[translator].rate * percent / FULL;
    }

    public int orderMatters(int first, int second)
            throws IndexOutOfBoundsException, IllegalArgumentException, IllegalStateException {
        checkNumber(first, state.segmentCount);
        checkNumber(second, state.segmentCount);
        checkArgument(first != second);
        Segment one = state.segments[first];
        Segment two = state.segments[second];
        checkState(one.stage == OPEN && two.stage == OPEN);
        return state.costInOrder(one.source, two.source) - state.costInOrder(two.source, one.source);
    }

    public int saved() {
        int words = state.wordsOfAll();
        if (words == 0) {
            return floatBits(0.0f);
        }
        return floatBits((float) state.savedPercents() / (float) (FULL * words));
    }

    public double wordCost() {
        int words = state.deliveredWords();
        if (words == 0) {
            return 0.0;
        }
        return (double) state.earnedByAll() / (double) words;
    }

    public long digest() {
        long hash = 2531;
        for (int what = 0; what <= 11; what++) {
            hash = mix(hash, count(what));
        }
        for (int setting = 0; setting < SETTINGS; setting++) {
            hash = mix(hash, setting(setting));
        }
        hash = mixTranslators(hash);
        hash = mixTerms(hash);
        hash = mixBands(hash);
        for (int segment = 0; segment < state.segmentCount; segment++) {
            hash = mixSegment(hash, segment);
        }
        for (int row = 0; row < state.memory.length; row++) {
            hash = mixRemembered(hash, row);
        }
        hash = mix(hash, saved());
        hash = mix(hash, bitsOf(wordCost(), DOUBLE_BIAS, DOUBLE_FRACTION_BITS));
        return mixBuffer(hash);
    }

    // ---- the parts of the digest

    private static long mix(long hash, long value) {
        return 31 * hash + value;
    }

    private long mixTranslators(long start) {
        long hash = start;
        for (int translator = 0; translator < TRANSLATORS; translator++) {
            for (int what = 0; what <= 6; what++) {
                hash = mix(hash, translator(translator, what));
            }
        }
        return hash;
    }

    private long mixTerms(long start) {
        long hash = start;
        for (int word = 0; word < WORDS; word++) {
            for (int what = 0; what <= 7; what++) {
                hash = mix(hash, term(word, what));
            }
        }
        return hash;
    }

    private long mixBands(long start) {
        long hash = start;
        for (int band = 0; band < BANDS; band++) {
            for (int what = 0; what <= 2; what++) {
                hash = mix(hash, band(band, what));
            }
        }
        return hash;
    }

    private long mixSegment(long start, int segment) {
        long hash = start;
        for (int what = 0; what <= 11; what++) {
            hash = mix(hash, segment(segment, what));
        }
        hash = mixRow(hash, state.segments[segment].source);
        for (int translator = 0; translator < TRANSLATORS; translator++) {
            hash = mix(hash, ifPaid(segment, translator));
        }
        for (int place = 0; place < 3; place++) {
            hash = mix(hash, common(segment, 0, place));
        }
        return hash;
    }

    private long mixRemembered(long start, int row) {
        long hash = mixRow(start, state.memory.rows[row]);
        // A row comes from a segment, and undo takes both back at once: segment 0 exists here.
        for (int what = 0; what <= 2; what++) {
            hash = mix(hash, near(0, row, what));
        }
        return hash;
    }

    private static long mixRow(long start, Row row) {
        long hash = start;
        for (int word : row.words) {
            hash = mix(hash, word);
        }
        return hash;
    }

    private long mixBuffer(long start) {
        long hash = mix(start, buffer.length);
        for (int i = 0; i < buffer.length; i++) {
            hash = mix(hash, buffer.codes[i]);
        }
        return hash;
    }

    // ---- checks that throw what the document names

    private static void checkNumber(int number, int howMany) {
        if (number < 0 || number >= howMany) {
            throw new IndexOutOfBoundsException("there is nothing with this number");
        }
    }

    private static void checkRange(int value, int lowest, int highest) {
        if (value < lowest || value > highest) {
            throw new IllegalArgumentException("the value is out of range");
        }
    }

    private static void checkArgument(boolean fits) {
        if (!fits) {
            throw new IllegalArgumentException("the argument or the buffer does not fit");
        }
    }

    private static void checkState(boolean allows) {
        if (!allows) {
            throw new IllegalStateException("the state does not allow this call");
        }
    }

    // ---- numbers

    private static int oneIf(boolean holds) {
        return holds ? 1 : 0;
    }

    private static int floatBits(float value) {
        return (int) bitsOf(value, FLOAT_BIAS, FLOAT_FRACTION_BITS);
    }

    /**
     * The bits of a number that is 0 or above, in the format with this bias and so many bits of
     * fraction. Done by arithmetic, as the language rules leave no library call for it; halving
     * and doubling are exact, so no bit is lost.
     */
    private static long bitsOf(double value, int bias, int fractionBits) {
        if (!(value > 0)) {
            return 0;
        }
        double scaled = value;
        long exponent = bias;
        for (int i = 1; i < bias && scaled < 1; i++) {
            scaled = scaled * 2;
            exponent--;
        }
        for (int i = 1; i < bias && scaled >= 2; i++) {
            scaled = scaled / 2;
            exponent++;
        }
        long one = 1L << fractionBits;
        return exponent * one + (long) ((scaled - 1) * (double) one);
    }

    // ---- what the desk consists of

    /** A row of words. It never changes, so segments, memory and saved states can share it. */
    private static final class Row {
        final int length;
        final int[] words;
        /** For each word the places where it stands, the place p as the bit 1 << p. */
        final int[] places;

        /**
         * The codes are letters of words, from the index from to ahead of the index end. That is
         * tested all the same, as the words are used as indexes wherever the row goes.
         */
        Row(int[] codes, int from, int end) {
            int first = Math.max(0, from);
            length = Math.max(0, Math.min(end, codes.length) - first);
            words = new int[length];
            places = new int[WORDS];
            for (int i = 0; i < length; i++) {
                int word = codes[first + i] - 'a';
                if (word >= 0 && word < WORDS) {
                    words[i] = word;
                    places[word] |= 1 << i;
                }
            }
        }

        int wordAt(int place) {
            return place >= 0 && place < length ? words[place] : NONE;
        }

        /** The first place of the word that is not ahead of from; NONE if there is none. */
        int placeOf(int word, int from) {
            for (int i = from; i < length; i++) {
                if (words[i] == word) {
                    return i;
                }
            }
            return NONE;
        }

        /**
         * The length of the longest common row of this row from the place from on and the other
         * one from the place otherFrom on. A table of lengths grows by 0 or 1 from column to
         * column, so one of its lines is held as bits: a bit is 0 where the length grows. A line
         * comes from the one before it by an addition, whose carry moves each growth to its
         * earliest column.
         */
        int commonLength(int from, Row other, int otherFrom) {
            if (from >= length) {
                return 0;
            }
            int all = (1 << (length - from)) - 1;
            int flat = all;
            for (int i = otherFrom; i < other.length; i++) {
                int same = places[other.words[i]] >> from;
                flat = ((flat + (flat & same)) | (flat & ~same)) & all;
            }
            return length - from - Integer.bitCount(flat);
        }

        int matchWith(Row other) {
            int sum = length + other.length;
            return sum == 0 ? 0 : 2 * FULL * commonLength(0, other, 0) / sum;
        }

        float likenessTo(Row other) {
            int sum = length + other.length;
            return sum == 0 ? 0.0f : (float) (2 * commonLength(0, other, 0)) / (float) sum;
        }

        /** The word at the place of the first one of the longest common rows. */
        int commonWord(Row other, int place) {
            int from = 0;
            int otherFrom = 0;
            int left = commonLength(0, other, 0);
            for (int at = 0; at < place && left > 0; at++) {
                int word = leastBeginning(from, other, otherFrom, left);
                from = placeOf(word, from) + 1;
                otherFrom = other.placeOf(word, otherFrom) + 1;
                left--;
            }
            return left > 0 ? leastBeginning(from, other, otherFrom, left) : NONE;
        }

        /** The least word with which a common row of this length can begin. */
        int leastBeginning(int from, Row other, int otherFrom, int wanted) {
            for (int word = 0; word < WORDS; word++) {
                int own = placeOf(word, from);
                int others = other.placeOf(word, otherFrom);
                if (own != NONE && others != NONE
                        && 1 + commonLength(own + 1, other, others + 1) == wanted) {
                    return word;
                }
            }
            return NONE;
        }
    }

    /** The rows that were delivered; in the array, those from the index length on do not count. */
    private static final class Memory {
        final Row[] rows = new Row[MEMORY_ROWS];
        int length = 0;

        Memory(Row blank) {
            for (int i = 0; i < MEMORY_ROWS; i++) {
                rows[i] = blank;
            }
        }

        void copyFrom(Memory other) {
            length = other.length;
            for (int i = 0; i < length; i++) {
                rows[i] = other.rows[i];
            }
        }

        void remember(Row row) {
            if (length >= MEMORY_ROWS) {
                dropFirst();
            }
            rows[length] = row;
            length++;
        }

        void dropFirst() {
            for (int i = 1; i < length; i++) {
                rows[i - 1] = rows[i];
            }
            length--;
        }

        /** The greatest match with a row that has the number from or one behind it. */
        int greatestMatch(Row row, int from) {
            int greatest = 0;
            for (int i = from; i < length; i++) {
                greatest = Math.max(greatest, row.matchWith(rows[i]));
            }
            return greatest;
        }

        int bestRow(Row row) {
            int greatest = greatestMatch(row, 0);
            int best = NONE;
            for (int i = 0; i < length; i++) {
                if (row.matchWith(rows[i]) == greatest) {
                    best = i;
                }
            }
            return best;
        }

        /** The match that the row would have after the other one was delivered. */
        int greatestMatchAfter(Row row, Row delivered) {
            int firstKept = length == MEMORY_ROWS ? 1 : 0;
            return Math.max(greatestMatch(row, firstKept), row.matchWith(delivered));
        }
    }

    /** A segment, or what is left in a place of the array in which none counts. */
    private static final class Segment {
        Row source;
        int stage;
        int translator;
        int band;
        int percent;
        int pay;
        int earlierPay;
        int reviser;
        int changedWords;
        /** The rate of its translator at the latest delivery, if there was one. */
        int deliveryRate;

        Segment(Row blank) {
            source = blank;
        }

        void beginWith(Row row) {
            source = row;
            stage = OPEN;
            translator = NONE;
            band = NONE;
            percent = NONE;
            pay = 0;
            earlierPay = 0;
            reviser = NONE;
            changedWords = 0;
        }

        /** Each stage behind open has a translator and a band; they are used as indexes then. */
        boolean isTakenAt(int reached) {
            return stage == reached && translator >= 0 && translator < TRANSLATORS
                    && band >= 0 && band < BANDS;
        }

        /** Back to the translator: what was paid stays paid, and the revision is void. */
        void reassign() {
            stage = ASSIGNED;
            earlierPay += pay;
            pay = 0;
            reviser = NONE;
            changedWords = 0;
        }

        void copyFrom(Segment other) {
            source = other.source;
            stage = other.stage;
            translator = other.translator;
            band = other.band;
            percent = other.percent;
            pay = other.pay;
            earlierPay = other.earlierPay;
            reviser = other.reviser;
            changedWords = other.changedWords;
            deliveryRate = other.deliveryRate;
        }
    }

    private static final class Translator {
        int rate = FIRST_RATE;
        int earned = 0;
        int deliveredWords = 0;
        int changedWords = 0;
        int correctedWords = 0;

        void copyFrom(Translator other) {
            rate = other.rate;
            earned = other.earned;
            deliveredWords = other.deliveredWords;
            changedWords = other.changedWords;
            correctedWords = other.correctedWords;
        }
    }

    private static final class Band {
        int percent;
        int words = 0;
        int money = 0;

        Band(int firstPercent) {
            percent = firstPercent;
        }

        void copyFrom(Band other) {
            percent = other.percent;
            words = other.words;
            money = other.money;
        }
    }

    /** What is proposed for a word, and its ruling. */
    private static final class Term {
        final int[] proposals = {NONE, NONE, NONE, NONE};
        int ruling = NONE;

        boolean isProposed(int proposal) {
            for (int held : proposals) {
                if (held == proposal) {
                    return true;
                }
            }
            return false;
        }

        int otherProposals(int proposal) {
            int others = 0;
            for (int held : proposals) {
                others += oneIf(held != NONE && held != proposal);
            }
            return others;
        }

        int unlikeProposals() {
            int unlike = 0;
            for (int proposal = 0; proposal <= HIGHEST_PROPOSAL; proposal++) {
                unlike += oneIf(isProposed(proposal));
            }
            return unlike;
        }

        boolean isDisputed() {
            return ruling == NONE && unlikeProposals() > 1;
        }

        void copyFrom(Term other) {
            System.arraycopy(other.proposals, 0, proposals, 0, TRANSLATORS);
            ruling = other.ruling;
        }
    }

    /** All that undo restores. */
    private static final class State {
        final int[] settings = {FIRST_REVISION_PERCENT, FIRST_CHANGE_PERCENT};
        final Translator[] translators = new Translator[TRANSLATORS];
        final Band[] bands = new Band[BANDS];
        final Term[] terms = new Term[WORDS];
        final Segment[] segments = new Segment[SEGMENTS];
        final Memory memory;
        int segmentCount = 0;

        State() {
            // Places in which nothing counts hold a row too, so that no reference is ever null.
            Row blank = new Row(new int[0], 0, 0);
            memory = new Memory(blank);
            for (int i = 0; i < TRANSLATORS; i++) {
                translators[i] = new Translator();
            }
            for (int i = 0; i < BANDS; i++) {
                bands[i] = new Band(FIRST_PERCENTS[i]);
            }
            for (int i = 0; i < WORDS; i++) {
                terms[i] = new Term();
            }
            for (int i = 0; i < SEGMENTS; i++) {
                segments[i] = new Segment(blank);
            }
        }

        void copyFrom(State other) {
            System.arraycopy(other.settings, 0, settings, 0, SETTINGS);
            for (int i = 0; i < TRANSLATORS; i++) {
                translators[i].copyFrom(other.translators[i]);
            }
            for (int i = 0; i < BANDS; i++) {
                bands[i].copyFrom(other.bands[i]);
            }
            for (int i = 0; i < WORDS; i++) {
                terms[i].copyFrom(other.terms[i]);
            }
            segmentCount = other.segmentCount;
            for (int i = 0; i < segmentCount; i++) {
                segments[i].copyFrom(other.segments[i]);
            }
            memory.copyFrom(other.memory);
        }

        // -- steps of segments

        void fixBand(Segment segment) {
            segment.band = bandOf(memory.greatestMatch(segment.source, 0));
            segment.percent = bands[segment.band].percent;
        }

        void takeDelivery(Segment segment) {
            Translator own = translators[segment.translator];
            Band paying = bands[segment.band];
            int words = segment.source.length;
            segment.stage = DELIVERED;
            segment.deliveryRate = own.rate;
            segment.pay = words * own.rate * segment.percent / FULL;
            own.earned += segment.pay;
            own.deliveredWords += words;
            paying.words += words;
            paying.money += segment.pay;
            memory.remember(segment.source);
        }

        void takeRevision(Segment segment, int translator, int changed) {
            Translator own = translators[segment.translator];
            Translator other = translators[translator];
            int fee = segment.source.length * other.rate * settings[REVISION_PERCENT] / FULL;
            int loss = changed * segment.deliveryRate * settings[CHANGE_PERCENT] / FULL;
            int less = Math.min(loss, segment.pay);
            segment.stage = REVISED;
            segment.reviser = translator;
            segment.changedWords = changed;
            segment.pay -= less;
            own.earned -= less;
            own.correctedWords += changed;
            other.earned += fee;
            other.changedWords += changed;
        }

        void replaceSource(Segment segment, Row source) {
            segment.source = source;
            if (segment.stage == OPEN) {
                return;
            }
            segment.reassign();
            fixBand(segment);
        }

        // -- what the memory makes of a row

        static int bandOf(int match) {
            for (int band = 0; band < LOWEST_MATCHES.length; band++) {
                if (match >= LOWEST_MATCHES[band]) {
                    return band;
                }
            }
            return LOWEST_MATCHES.length;
        }

        int percentOf(int match) {
            return bands[bandOf(match)].percent;
        }

        int percentNow(Row row) {
            return percentOf(memory.greatestMatch(row, 0));
        }

        int costInOrder(Row first, Row second) {
            int percentAfter = percentOf(memory.greatestMatchAfter(second, first));
            return first.length * percentNow(first) + second.length * percentAfter;
        }

        int savedPercents() {
            int sum = 0;
            for (int i = 0; i < segmentCount; i++) {
                Row source = segments[i].source;
                sum += source.length * (FULL - percentNow(source));
            }
            return sum;
        }

        // -- sums

        boolean hasDispute(Row row) {
            for (int word : row.words) {
                if (terms[word].isDisputed()) {
                    return true;
                }
            }
            return false;
        }

        int segmentsAt(int stage) {
            int found = 0;
            for (int i = 0; i < segmentCount; i++) {
                found += oneIf(segments[i].stage == stage);
            }
            return found;
        }

        int assignedTo(int translator) {
            int found = 0;
            for (int i = 0; i < segmentCount; i++) {
                Segment seen = segments[i];
                found += oneIf(seen.stage == ASSIGNED && seen.translator == translator);
            }
            return found;
        }

        int proposalsOf(int translator) {
            int found = 0;
            for (Term seen : terms) {
                found += oneIf(seen.proposals[translator] != NONE);
            }
            return found;
        }

        int occurrences(int word) {
            int found = 0;
            for (int i = 0; i < segmentCount; i++) {
                found += Integer.bitCount(segments[i].source.places[word]);
            }
            return found;
        }

        int wordsOfAll() {
            int sum = 0;
            for (int i = 0; i < segmentCount; i++) {
                sum += segments[i].source.length;
            }
            return sum;
        }

        int deliveredWords() {
            int sum = 0;
            for (Translator each : translators) {
                sum += each.deliveredWords;
            }
            return sum;
        }

        int earnedByAll() {
            int sum = 0;
            for (Translator each : translators) {
                sum += each.earned;
            }
            return sum;
        }

        int disputedWords() {
            int found = 0;
            for (Term seen : terms) {
                found += oneIf(seen.isDisputed());
            }
            return found;
        }

        int ruledWords() {
            int found = 0;
            for (Term seen : terms) {
                found += oneIf(seen.ruling != NONE);
            }
            return found;
        }
    }

    /** The saved states, in a ring of states that are made once and used again. */
    private static final class History {
        final State[] states = new State[SAVED_STATES];
        int first = 0;
        int length = 0;

        History() {
            for (int i = 0; i < SAVED_STATES; i++) {
                states[i] = new State();
            }
        }

        void save(State state) {
            if (length == SAVED_STATES) {
                first = (first + 1) % SAVED_STATES;
                length--;
            }
            states[(first + length) % SAVED_STATES].copyFrom(state);
            length++;
        }

        void restore(State state) {
            length--;
            state.copyFrom(states[(first + length) % SAVED_STATES]);
        }
    }

    /** The characters that were appended, and what they are as a text. */
    private static final class Buffer {
        final int[] codes = new int[BUFFER_CODES];
        int length = 0;

        static boolean isLetter(int code) {
            return code >= 'a' && code < 'a' + WORDS;
        }

        int firstFault() {
            int words = 0;
            for (int i = 0; i < length; i++) {
                if (isLetter(codes[i]) && words < ROW_WORDS) {
                    words++;
                } else if (codes[i] == ';' && words > 0) {
                    words = 0;
                } else {
                    return i;
                }
            }
            return length;
        }

        boolean isComplete() {
            return length > 0 && firstFault() == length && codes[length - 1] != ';';
        }

        int rowCount() {
            int rows = 1;
            for (int i = 0; i < length; i++) {
                rows += oneIf(codes[i] == ';');
            }
            return rows;
        }

        /** The index behind the last letter of the row that begins at from. */
        int endOfRow(int from) {
            int end = from;
            while (end < length && codes[end] != ';') {
                end++;
            }
            return end;
        }
    }
}
