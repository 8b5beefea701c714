import java.util.ArrayList;
import java.util.List;

/**
 * Desks that are made alike, of which one has to refuse a call. Afterwards both must answer alike:
 * to every look, to undo until nothing is left, and to the calls that go on from there.
 */
final class Twins {
    interface Maker {
        MemoryDesk make();
    }

    interface Use {
        double on(MemoryDesk desk);
    }

    private interface Sequel {
        List<String> answers(MemoryDesk desk);
    }

    /** What the calls of a sequel answered, each behind its name. */
    private static final class Told {
        final List<String> answers = new ArrayList<>();

        void tell(String call, Check.Call answer) {
            answers.add(call + ": " + Check.thrownBy(answer));
        }
    }

    private Twins() {
    }

    /** The call must throw just this exception, and nothing may be changed by it. */
    static void refused(String what, Maker maker, Class<?> due, Use use) {
        // Each sequel has desks of its own, as no desk is asked more than 512 times.
        check(what, maker, due, use, Twins::looks);
        check(what, maker, due, use, Twins::undos);
        check(what, maker, due, use, Twins::next);
    }

    private static void check(String what, Maker maker, Class<?> due, Use use, Sequel sequel) {
        MemoryDesk desk = maker.make();
        Check.equal(what, Check.thrownBy(() -> use.on(desk)), due.getSimpleName());
        List<String> answers = sequel.answers(desk);
        List<String> twins = sequel.answers(maker.make());
        Check.equal(what + ": answers afterwards", answers.size(), twins.size());
        for (int i = 0; i < Math.min(answers.size(), twins.size()); i++) {
            Check.equal(what + ": afterwards", answers.get(i), twins.get(i));
        }
    }

    static List<String> looks(MemoryDesk desk) {
        Told told = new Told();
        for (int what = 0; what < 12; what++) {
            int asked = what;
            told.tell("count " + what, () -> desk.count(asked));
        }
        told.tell("setting 0", () -> desk.setting(0));
        told.tell("setting 1", () -> desk.setting(1));
        told.answers.add(TestDesks.propertiesOfTranslator(desk, 0) + TestDesks.propertiesOfTranslator(desk, 1)
                + TestDesks.propertiesOfTranslator(desk, 2) + TestDesks.propertiesOfTranslator(desk, 3));
        for (int word = 0; word < 8; word++) {
            told.answers.add("term " + word + ": " + TestDesks.propertiesOfTerm(desk, word));
        }
        for (int band = 0; band < 5; band++) {
            told.answers.add("band " + band + ": " + TestDesks.propertiesOfBand(desk, band));
        }
        looksAtRows(told, desk);
        told.tell("orderMatters", () -> desk.orderMatters(0, 1));
        told.tell("saved", () -> desk.saved());
        told.tell("wordCost", () -> desk.wordCost());
        told.tell("firstError", () -> desk.firstError());
        told.tell("digest", () -> desk.digest());
        told.tell("clearBuffer", () -> desk.clearBuffer());
        return told.answers;
    }

    private static void looksAtRows(Told told, MemoryDesk desk) {
        int segments = desk.count(0);
        for (int segment = 0; segment < segments; segment++) {
            int asked = segment;
            told.answers.add("segment " + segment + ": " + TestDesks.wordsOf(desk, segment)
                    + TestDesks.properties(desk, segment) + TestDesks.wordsInCommon(desk, segment, 0));
            for (int translator = 0; translator < 4; translator++) {
                int other = translator;
                told.tell("ifPaid " + segment, () -> desk.ifPaid(asked, other));
            }
        }
        int rows = desk.count(5);
        for (int row = 0; row < rows; row++) {
            int asked = row;
            told.answers.add("row " + row + ": " + TestDesks.wordsOfRow(desk, row));
            told.tell("near " + row, () -> desk.near(0, asked, 0));
        }
    }

    /** One undo more than there can be states; the last one is refused. */
    private static List<String> undos(MemoryDesk desk) {
        Told told = new Told();
        for (int i = 0; i < 7; i++) {
            told.tell("undo", () -> desk.undo());
            told.tell("digest", () -> desk.digest());
        }
        return told.answers;
    }

    /** Calls that show what no look tells, such as the rate at a delivery. */
    static List<String> next(MemoryDesk desk) {
        Told told = new Told();
        told.tell("append", () -> desk.append('a'));
        told.tell("firstError", () -> desk.firstError());
        int segments = desk.count(0);
        for (int segment = 0; segment < segments; segment++) {
            int asked = segment;
            for (int translator = 0; translator < 4; translator++) {
                int other = translator;
                told.tell("revise " + segment, () -> desk.revise(asked, other, 1));
            }
            told.tell("assign " + segment, () -> desk.assign(asked, 2));
            told.tell("deliver " + segment, () -> desk.deliver(asked));
            told.tell("revise " + segment, () -> desk.revise(asked, 3, 1));
        }
        for (int word = 0; word < 8; word++) {
            int asked = word;
            told.tell("propose for " + word, () -> desk.propose(asked, 2, 5));
            told.tell("rule " + word, () -> desk.rule(asked, 5));
        }
        told.tell("change", () -> desk.change(0));
        told.tell("add", () -> desk.add());
        told.tell("digest", () -> desk.digest());
        return told.answers;
    }
}
