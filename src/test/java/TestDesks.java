import java.util.Arrays;

/** What the tests by hand share: desks that are soon made, and answers put together as texts. */
abstract class TestDesks {
    static final Class<?> INDEX = IndexOutOfBoundsException.class;
    static final Class<?> ARGUMENT = IllegalArgumentException.class;
    static final Class<?> STATE = IllegalStateException.class;
    static final int NONE = MemoryDesk.NONE;
    static final int MIN = Integer.MIN_VALUE;
    static final int MAX = Integer.MAX_VALUE;

    static void equal(String what, long got, long due) {
        Check.equal(what, got, due);
    }

    static void refused(String what, MemoryDesk desk, Class<?> due, Check.Call call) {
        Check.refused(what, desk, due, call);
    }

    static void type(MemoryDesk desk, String text) {
        for (char c : text.toCharArray()) {
            desk.append(c);
        }
    }

    static MemoryDesk desk(String text) {
        MemoryDesk desk = new MemoryDesk();
        type(desk, text);
        desk.add();
        return desk;
    }

    static void finish(MemoryDesk desk, int segment, int translator) {
        desk.assign(segment, translator);
        desk.deliver(segment);
    }

    static int change(MemoryDesk desk, int segment, String text) {
        type(desk, text);
        return desk.change(segment);
    }

    private interface WordAt {
        int answer(int place);
    }

    /** All 12 places, with a dot for NONE. */
    private static String allPlaces(WordAt words) {
        StringBuilder text = new StringBuilder();
        for (int place = 0; place < 12; place++) {
            int word = words.answer(place);
            text.append(word == NONE ? '.' : (char) ('a' + word));
        }
        return text.toString();
    }

    /** The words alone: it costs fewer of the 512 calls than all places do. */
    private static String wordsAlone(WordAt words) {
        StringBuilder text = new StringBuilder();
        for (int place = 0; place < 12; place++) {
            int word = words.answer(place);
            if (word == NONE) {
                break;
            }
            text.append((char) ('a' + word));
        }
        return text.toString();
    }

    static String source(MemoryDesk desk, int segment) {
        return allPlaces(place -> desk.word(segment, place));
    }

    static String rowOfMemory(MemoryDesk desk, int row) {
        return allPlaces(place -> desk.remembered(row, place));
    }

    static String commonRow(MemoryDesk desk, int segment, int other) {
        return allPlaces(place -> desk.common(segment, other, place));
    }

    static String wordsOf(MemoryDesk desk, int segment) {
        return wordsAlone(place -> desk.word(segment, place));
    }

    static String wordsOfRow(MemoryDesk desk, int row) {
        return wordsAlone(place -> desk.remembered(row, place));
    }

    static String wordsInCommon(MemoryDesk desk, int segment, int other) {
        return wordsAlone(place -> desk.common(segment, other, place));
    }

    static String properties(MemoryDesk desk, int segment) {
        int[] all = new int[12];
        for (int what = 0; what < 12; what++) {
            all[what] = desk.segment(segment, what);
        }
        return Arrays.toString(all);
    }

    static String propertiesOfTranslator(MemoryDesk desk, int translator) {
        int[] all = new int[7];
        for (int what = 0; what < 7; what++) {
            all[what] = desk.translator(translator, what);
        }
        return Arrays.toString(all);
    }

    static String propertiesOfTerm(MemoryDesk desk, int word) {
        int[] all = new int[8];
        for (int what = 0; what < 8; what++) {
            all[what] = desk.term(word, what);
        }
        return Arrays.toString(all);
    }

    static String propertiesOfBand(MemoryDesk desk, int band) {
        return Arrays.toString(new int[] {desk.band(band, 0), desk.band(band, 1), desk.band(band, 2)});
    }

    static String counts(MemoryDesk desk) {
        int[] all = new int[12];
        for (int what = 0; what < 12; what++) {
            all[what] = desk.count(what);
        }
        return Arrays.toString(all);
    }

    /** Numbers beside the range and far away, and such as a cut to fewer bits would bring into it. */
    static int[] outside(int lowest, int highest) {
        return new int[] {lowest - 1, highest + 1, lowest + 256, highest - 256, lowest + 65536,
            highest - 65536, MIN, MAX};
    }

    /**
     * A desk with something of everything: segment 0 revised, 1 delivered, 2 assigned, 3 and 4
     * open, "g" disputed, "h" ruled, other rates and settings than at first, six saved states,
     * and a row of one segment in the buffer.
     */
    static MemoryDesk mixed() {
        MemoryDesk desk = desk("abcd;abce;ab;gh;cdg");
        finish(desk, 0, 1);
        finish(desk, 1, 0);
        desk.rate(0, 40);
        desk.propose(6, 0, 1);
        desk.propose(6, 1, 2);
        desk.propose(7, 3, 0);
        desk.rule(7, 0);
        desk.set(1, 60);
        desk.revise(0, 2, 1);
        desk.assign(2, 3);
        type(desk, "ab");
        return desk;
    }

    /** The words of the row k of smallRows: no two of its first 64 rows are alike. */
    static String smallRow(int k) {
        return "" + (char) ('a' + k / 8 % 8) + (char) ('a' + k % 8);
    }

    /** A desk whose segment 0 was delivered so often, with the small row k as its source the time k. */
    static MemoryDesk smallRows(int howMany, String otherSegments) {
        MemoryDesk desk = desk(smallRow(0) + otherSegments);
        desk.assign(0, 0);
        for (int k = 0; k < howMany; k++) {
            if (k > 0) {
                change(desk, 0, smallRow(k));
            }
            desk.deliver(0);
        }
        return desk;
    }

    /** Delivers 30 rows, of which the row k has k % 12 + 1 words. */
    static MemoryDesk fullMemory() {
        MemoryDesk desk = desk("a;h;gh");
        desk.assign(0, 0);
        for (int row = 0; row < 30; row++) {
            change(desk, 0, "abcdefabcdef".substring(0, row % 12 + 1));
            desk.deliver(0);
        }
        return desk;
    }
}
