import java.util.ArrayList;
import java.util.List;

/**
 * Undo, as the document's chapter tells it: "all but the buffer and the saved states". One story
 * goes through all undoable calls; wherever it is stopped, and however far it is taken back, the
 * desk must answer as one on which the calls taken back were never made.
 */
public final class UndoTest extends TestDesks {
    private static final Twins.Use[] STORY = {
        d -> add(d, "abcd;abce;ab;gh;cdg;hgfe"),
        d -> d.rate(0, 37),
        d -> d.rate(1, 23),
        d -> d.assign(0, 1),
        d -> d.deliver(0),
        d -> d.rate(1, 51),
        d -> d.assign(1, 0),
        d -> d.deliver(1),
        d -> d.set(0, 70),
        d -> d.set(1, 90),
        d -> d.revise(0, 0, 3),
        d -> d.revise(1, 1, 2),
        d -> d.pays(2, 55),
        d -> d.propose(0, 0, 4),
        d -> d.propose(0, 3, 5),
        d -> d.propose(6, 1, 9),
        d -> d.propose(6, 2, 8),
        d -> d.rule(0, 5),
        d -> change(d, 1, "abde"),
        d -> d.deliver(1),
        d -> change(d, 2, "bcdefgha"),
        d -> d.assign(2, 3),
        d -> d.assign(3, 2),
        d -> change(d, 3, "ha"),
        d -> d.deliver(3),
        d -> d.revise(3, 1, 1),
        d -> change(d, 0, "c"),
        d -> add(d, "ab;cd"),
        d -> d.propose(6, 1, NONE),
        d -> d.rate(1, 1),
        d -> d.deliver(0),
        d -> d.revise(0, 2, 1),
        d -> change(d, 5, "e"),
        d -> d.assign(7, 0),
        d -> d.pays(0, 0),
        d -> d.deliver(2),
        d -> d.revise(2, 0, 0),
    };

    private UndoTest() {
    }

    public static void main(String[] args) {
        theStoryTellsNumbersApart();
        everyCallSavesOneState();
        takenBackFromEachStep();
        goneOnBehindEachUndo();
        Check.end("UndoTest");
    }

    private static int add(MemoryDesk desk, String text) {
        type(desk, text);
        return desk.add();
    }

    private static MemoryDesk told(int from, int to, MemoryDesk desk) {
        for (int step = from; step < to; step++) {
            STORY[step].on(desk);
        }
        return desk;
    }

    private static MemoryDesk takenBack(int steps, int back) {
        MemoryDesk desk = told(0, steps, new MemoryDesk());
        for (int i = 0; i < back; i++) {
            desk.undo();
        }
        return desk;
    }

    /** Undo that mixes two numbers up must be found out, so the numbers of one owner are unlike. */
    private static void theStoryTellsNumbersApart() {
        MemoryDesk desk = told(0, STORY.length, new MemoryDesk());
        Check.equal("translator 0", propertiesOfTranslator(desk, 0), "[37, 413, 1, 8, 3, 2, 1]");
        Check.equal("translator 1", propertiesOfTranslator(desk, 1), "[1, 244, 0, 5, 3, 4, 0]");
        Check.equal("translator 2", propertiesOfTranslator(desk, 2), "[10, 18, 0, 2, 1, 1, 1]");
        Check.equal("translator 3", propertiesOfTranslator(desk, 3), "[10, 64, 0, 8, 0, 0, 1]");
        Check.equal("a", propertiesOfTerm(desk, 0), "[4, -1, -1, 5, 5, 0, 2, 4]");
        Check.equal("segment 0", properties(desk, 0), "[1, 3, 1, 100, 4, 4, 100, 1, 30, 2, 1, 0]");
        Check.equal("segment 1", properties(desk, 1), "[4, 2, 0, 100, 2, 2, 55, 81, 22, -1, 0, 0]");
    }

    private static void everyCallSavesOneState() {
        MemoryDesk desk = new MemoryDesk();
        for (int step = 0; step < STORY.length; step++) {
            STORY[step].on(desk);
            equal("states behind the step " + step, desk.count(11), Math.min(step + 1, 6));
        }
    }

    /** What the calls answer, without how many states are saved: there, only undo makes the difference. */
    private static List<String> withoutStates(List<String> answers) {
        List<String> rest = new ArrayList<>();
        for (String answer : answers) {
            if (!answer.startsWith("count 11:") && !answer.startsWith("digest:")) {
                rest.add(answer);
            }
        }
        return rest;
    }

    private static void alike(String what, List<String> answers, List<String> due) {
        Check.equal(what + ": answers", answers.size(), due.size());
        for (int i = 0; i < Math.min(answers.size(), due.size()); i++) {
            Check.equal(what, answers.get(i), due.get(i));
        }
    }

    private static void takenBackFromEachStep() {
        for (int steps = 1; steps <= STORY.length; steps++) {
            for (int back = 1; back <= Math.min(steps, 6); back++) {
                String what = steps + " calls, " + back + " taken back";
                int left = steps - back;
                equal(what + ": states", takenBack(steps, back).count(11), Math.min(steps, 6) - back);
                if (left > 0) {
                    alike(what, withoutStates(Twins.looks(takenBack(steps, back))),
                            withoutStates(Twins.looks(told(0, left, new MemoryDesk()))));
                    alike(what + ", then", withoutStates(Twins.next(takenBack(steps, back))),
                            withoutStates(Twins.next(told(0, left, new MemoryDesk()))));
                }
            }
        }
    }

    /** The calls that were taken back are made again, to the end: the digest is as without undo. */
    private static void goneOnBehindEachUndo() {
        long due = told(0, STORY.length, new MemoryDesk()).digest();
        for (int steps = 6; steps <= STORY.length; steps++) {
            for (int back = 1; back <= 6; back++) {
                MemoryDesk desk = told(steps - back, STORY.length, takenBack(steps, back));
                equal(steps + " calls, " + back + " taken back, all made again", desk.digest(), due);
            }
        }
    }
}
