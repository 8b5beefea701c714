import java.math.BigInteger;
import java.util.ArrayList;
import java.util.List;

/** The digest as promise 30 lists it, from what the other calls answer and in numbers that never overflow. */
final class Digest {
    private Digest() {
    }

    /** What the digest must be, if the buffer holds this text. */
    static long asListed(MemoryDesk desk, String buffer) {
        BigInteger hash = BigInteger.valueOf(2531);
        for (long value : values(desk, buffer)) {
            hash = hash.multiply(BigInteger.valueOf(31)).add(BigInteger.valueOf(value));
        }
        // Overflow keeps the low 64 bits, and so does longValue.
        return hash.longValue();
    }

    static List<Long> values(MemoryDesk desk, String buffer) {
        List<Long> values = new ArrayList<>();
        for (int what = 0; what < 12; what++) {
            values.add((long) desk.count(what));
        }
        values.add((long) desk.setting(0));
        values.add((long) desk.setting(1));
        for (int i = 0; i < 4 * 7; i++) {
            values.add((long) desk.translator(i / 7, i % 7));
        }
        for (int i = 0; i < 8 * 8; i++) {
            values.add((long) desk.term(i / 8, i % 8));
        }
        for (int i = 0; i < 5 * 3; i++) {
            values.add((long) desk.band(i / 3, i % 3));
        }
        int segments = values.get(0).intValue();
        int rows = values.get(5).intValue();
        for (int segment = 0; segment < segments; segment++) {
            takeSegment(values, desk, segment);
        }
        for (int row = 0; row < rows; row++) {
            takeRow(values, desk, row);
        }
        values.add((long) desk.saved());
        values.add(Double.doubleToLongBits(desk.wordCost()));
        values.add((long) buffer.length());
        buffer.chars().forEach(c -> values.add((long) c));
        return values;
    }

    private static void takeSegment(List<Long> values, MemoryDesk desk, int segment) {
        for (int what = 0; what < 12; what++) {
            values.add((long) desk.segment(segment, what));
        }
        TestDesks.wordsOf(desk, segment).chars().forEach(c -> values.add((long) c - 'a'));
        for (int translator = 0; translator < 4; translator++) {
            values.add((long) desk.ifPaid(segment, translator));
        }
        for (int place = 0; place < 3; place++) {
            values.add((long) desk.common(segment, 0, place));
        }
    }

    private static void takeRow(List<Long> values, MemoryDesk desk, int row) {
        TestDesks.wordsOfRow(desk, row).chars().forEach(c -> values.add((long) c - 'a'));
        for (int what = 0; what < 3; what++) {
            values.add((long) desk.near(0, row, what));
        }
    }
}
