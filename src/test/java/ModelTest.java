/** Long runs of mixed calls, each compared with what NaiveDesk answers or throws. */
public final class ModelTest {
    private static final int RUNS = 600;
    private static final int CALLS = 512;
    private static final int[] WILD = {-1, -2, 100, 1000, Integer.MIN_VALUE, Integer.MAX_VALUE};

    private long seed;
    private final int run;
    private MemoryDesk desk = new MemoryDesk();
    private NaiveDesk naive = new NaiveDesk();
    private int calls = 0;
    /** What this run is like: its words, how long its rows are, what it does most. */
    private final int letters;
    private final int longest;
    private final int kind;
    private int fullest = 0;

    private ModelTest(int run) {
        this.run = run;
        seed = 77777L * run + 5;
        letters = 1 + below(8);
        longest = run % 3 == 0 ? 12 : 1 + below(5);
        kind = run % 5;
    }

    public static void main(String[] args) {
        int fullMemories = 0;
        for (int run = 0; run < RUNS; run++) {
            ModelTest test = new ModelTest(run);
            test.play();
            fullMemories += test.fullest == 30 ? 1 : 0;
            NaiveDesk.forget();
        }
        if (fullMemories < 20) {
            Check.fail("only " + fullMemories + " runs filled the memory");
        }
        Check.end("ModelTest");
    }

    /** A number from 0 to bound - 1 by a fixed rule, so that each run is the same each time. */
    private int below(int bound) {
        seed = seed * 6364136223846793005L + 1442695040888963407L;
        return (int) ((seed >>> 33) % bound);
    }

    /** Mostly a number that is there, now and then one beside it or far away. */
    private int number(int howMany) {
        int chance = below(40);
        if (chance == 0) {
            return howMany;
        }
        if (chance == 1) {
            return WILD[below(WILD.length)];
        }
        return below(Math.max(1, howMany));
    }

    private int segmentNumber() {
        return number(naive.count(0));
    }

    private void play() {
        type(3 + below(4));
        compare("add", () -> desk.add(), () -> naive.add());
        while (calls < CALLS - 40) {
            step();
            fullest = Math.max(fullest, naive.count(5));
            if (below(4) == 0) {
                compare("digest", () -> desk.digest());
            }
        }
        compare("digest", () -> desk.digest());
    }

    private void compare(String call, java.util.function.LongSupplier ours) {
        compare(call, () -> ours.getAsLong(), () -> naive.digest());
    }

    private interface Answer {
        long get();
    }

    private void compare(String call, Answer ours, Answer theirs) {
        calls++;
        Check.equal("run " + run + ", call " + calls + ": " + call, told(ours), told(theirs));
    }

    private static String told(Answer answer) {
        try {
            return Long.toString(answer.get());
        } catch (RuntimeException e) {
            return e.getClass().getSimpleName();
        }
    }

    // ---- steps

    private void step() {
        int chance = below(100);
        if (kind == 1 && chance < 60) {
            mill();
        } else if (kind == 2 && chance < 50) {
            undo();
        } else if (chance < 50) {
            work();
        } else if (chance < 65) {
            text();
        } else if (chance < 72) {
            undo();
        } else {
            look();
        }
    }

    /** Fills the memory: a segment that was delivered is changed and delivered again. */
    private void mill() {
        int segment = below(Math.max(1, Math.min(2, naive.count(0))));
        int translator = below(4);
        compare("assign", () -> desk.assign(segment, translator), () -> naive.assign(segment, translator));
        for (int i = 0; i < 3; i++) {
            compare("deliver", () -> desk.deliver(segment), () -> naive.deliver(segment));
            both('a' + below(letters));
            if (below(3) == 0) {
                both('a' + below(letters));
            }
            compare("change", () -> desk.change(segment), () -> naive.change(segment));
        }
    }

    private void undo() {
        if (below(2) == 0) {
            work();
        }
        compare("undo", () -> desk.undo(), () -> naive.undo());
    }

    private void work() {
        int s = segmentNumber();
        int t = number(4);
        int w = kind == 3 ? number(3) : number(8);
        int p = kind == 3 ? number(2) : number(12) - 1;
        switch (below(13)) {
            case 0: {
                int rate = number(100);
                compare("rate", () -> desk.rate(t, rate), () -> naive.rate(t, rate));
                break;
            }
            case 1: {
                int b = number(5);
                int percent = number(101);
                compare("pays", () -> desk.pays(b, percent), () -> naive.pays(b, percent));
                break;
            }
            case 2: {
                int k = number(2);
                int value = number(201);
                compare("set", () -> desk.set(k, value), () -> naive.set(k, value));
                break;
            }
            case 3:
            case 4:
                compare("assign", () -> desk.assign(s, t), () -> naive.assign(s, t));
                break;
            case 5:
            case 6:
            case 7:
                compare("deliver", () -> desk.deliver(s), () -> naive.deliver(s));
                break;
            case 8:
            case 9: {
                int changed = number(longest + 1);
                compare("revise", () -> desk.revise(s, t, changed), () -> naive.revise(s, t, changed));
                break;
            }
            case 10:
            case 11:
                compare("propose", () -> desk.propose(w, t, p), () -> naive.propose(w, t, p));
                break;
            default:
                compare("rule", () -> desk.rule(w, p), () -> naive.rule(w, p));
        }
    }

    private void both(int code) {
        compare("append " + code, () -> desk.append(code), () -> naive.append(code));
    }

    private void type(int rows) {
        for (int row = 0; row < rows && calls < CALLS - 60; row++) {
            if (row > 0) {
                both(';');
            }
            int length = 1 + below(longest);
            for (int i = 0; i < length; i++) {
                both('a' + below(letters));
            }
        }
    }

    private void text() {
        if (calls > CALLS - 60) {
            return;
        }
        int s = segmentNumber();
        switch (below(8)) {
            case 0:
                compare("clearBuffer", () -> desk.clearBuffer(), () -> naive.clearBuffer());
                break;
            case 1:
                both(number(140));
                break;
            case 2: {
                int[] near = {';', ';', 'a', 'h', 'i', '`', ':', 'A', '~', '!'};
                both(near[below(near.length)]);
                break;
            }
            case 3:
                type(1 + below(2));
                compare("add", () -> desk.add(), () -> naive.add());
                break;
            case 4:
                if (kind == 4) {
                    type(1 + below(6));
                }
                break;
            default:
                compare("clearBuffer", () -> desk.clearBuffer(), () -> naive.clearBuffer());
                type(1);
                compare("change", () -> desk.change(s), () -> naive.change(s));
        }
        compare("firstError", () -> desk.firstError(), () -> naive.firstError());
    }

    private void look() {
        int s = segmentNumber();
        int o = segmentNumber();
        int r = number(naive.count(5));
        int b = number(5);
        int t = number(4);
        int place = number(12);
        int what = number(12);
        switch (below(14)) {
            case 0:
                compare("segment", () -> desk.segment(s, what), () -> naive.segment(s, what));
                break;
            case 1:
                compare("word", () -> desk.word(s, place), () -> naive.word(s, place));
                break;
            case 2:
                compare("remembered", () -> desk.remembered(r, place), () -> naive.remembered(r, place));
                break;
            case 3:
                compare("translator", () -> desk.translator(t, what), () -> naive.translator(t, what));
                break;
            case 4:
                compare("term", () -> desk.term(place, what), () -> naive.term(place, what));
                break;
            case 5:
                compare("band", () -> desk.band(b, what), () -> naive.band(b, what));
                break;
            case 6:
                compare("count", () -> desk.count(what), () -> naive.count(what));
                break;
            case 7:
                compare("setting", () -> desk.setting(t), () -> naive.setting(t));
                break;
            case 8: {
                int near = number(3);
                compare("near", () -> desk.near(s, r, near), () -> naive.near(s, r, near));
                break;
            }
            case 9:
                compare("common", () -> desk.common(s, o, place), () -> naive.common(s, o, place));
                break;
            case 10:
                compare("ifPaid", () -> desk.ifPaid(s, t), () -> naive.ifPaid(s, t));
                break;
            case 11:
                compare("saved", () -> desk.saved(), () -> naive.saved());
                break;
            case 12:
                compare("wordCost", () -> Double.doubleToLongBits(desk.wordCost()),
                        () -> Double.doubleToLongBits(naive.wordCost()));
                break;
            default:
                compare("orderMatters", () -> desk.orderMatters(s, o), () -> naive.orderMatters(s, o));
        }
    }
}
