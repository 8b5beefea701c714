/** Promise by promise, with answers worked out by hand from the document. */
public final class PromiseTest extends TestDesks {
    private PromiseTest() {
    }

    public static void main(String[] args) {
        readme();
        newObject();
        rate();
        pays();
        set();
        assign();
        assignAtTheEdgesOfBands();
        deliver();
        deliverDisputed();
        deliverBeyondTheMemory();
        revise();
        reviseDownToNothing();
        propose();
        rule();
        append();
        clearBuffer();
        firstError();
        add();
        change();
        changeAgain();
        undo();
        undoOfEachCall();
        undoOfALaterRate();
        undoLeavesNothing();
        undoKeepsSixStates();
        segment();
        word();
        remembered();
        translator();
        term();
        band();
        count();
        setting();
        near();
        common();
        ifPaid();
        orderMatters();
        orderMattersWithAFullMemory();
        saved();
        wordCost();
        digest();
        Check.end("PromiseTest");
    }

    // ---- README.md

    /** The example of README.md, call by call. */
    private static void readme() {
        MemoryDesk desk = new MemoryDesk();
        for (char c : "abcd;abce".toCharArray()) {
            desk.append(c);
        }
        equal("add", desk.add(), 2);
        equal("assign(0, 1)", desk.assign(0, 1), 4);
        equal("deliver(0)", desk.deliver(0), 40);
        equal("assign(1, 2)", desk.assign(1, 2), 2);
        equal("ifPaid(1, 2)", desk.ifPaid(1, 2), 24);
        equal("undo", desk.undo(), 3);
        equal("open again", desk.segment(1, 1), 0);
        refused("deliver(1)", desk, STATE, () -> desk.deliver(1));
    }

    // ---- promise 1

    private static void newObject() {
        MemoryDesk desk = new MemoryDesk();
        equal("NONE", MemoryDesk.NONE, -1);
        Check.equal("new: counts", counts(desk), "[0, 0, 0, 0, 0, 0, 0, 0, 0, 0, 0, 0]");
        for (int translator = 0; translator < 4; translator++) {
            Check.equal("new: translator", propertiesOfTranslator(desk, translator),
                    "[10, 0, 0, 0, 0, 0, 0]");
        }
        for (int word = 0; word < 8; word++) {
            Check.equal("new: term", propertiesOfTerm(desk, word), "[-1, -1, -1, -1, -1, 0, 0, 0]");
        }
        int[] percents = {10, 30, 60, 80, 100};
        for (int band = 0; band < 5; band++) {
            Check.equal("new: band", propertiesOfBand(desk, band), "[" + percents[band] + ", 0, 0]");
        }
        equal("new: setting 0", desk.setting(0), 30);
        equal("new: setting 1", desk.setting(1), 50);
        equal("new: firstError", desk.firstError(), 0);
        equal("new: clearBuffer", desk.clearBuffer(), 0);
        equal("new: saved", desk.saved(), 0);
        Check.equal("new: wordCost", desk.wordCost(), 0.0);
        refused("new: undo", desk, STATE, () -> desk.undo());
    }

    // ---- promises 2 to 4

    private static void rate() {
        MemoryDesk desk = desk("ab");
        equal("rate(1, 25)", desk.rate(1, 25), 10);
        equal("rate(1, 1)", desk.rate(1, 1), 25);
        equal("rate(1, 99)", desk.rate(1, 99), 1);
        equal("rate(1, 99) again", desk.rate(1, 99), 99);
        equal("rate(0, 5)", desk.rate(0, 5), 10);
        equal("rate(3, 7)", desk.rate(3, 7), 10);
        for (int translator = 0; translator < 4; translator++) {
            equal("the rate", desk.translator(translator, 0), new int[] {5, 99, 10, 7}[translator]);
        }
        equal("rate saves each time", desk.count(11), 6);
        for (int wrong : new int[] {-1, 4, MIN, MAX}) {
            refused("rate(" + wrong + ", 5)", desk, INDEX, () -> desk.rate(wrong, 5));
            refused("rate(" + wrong + ", 0)", desk, INDEX, () -> desk.rate(wrong, 0));
        }
        for (int wrong : new int[] {0, 100, -1, MIN, MAX}) {
            refused("rate(0, " + wrong + ")", desk, ARGUMENT, () -> desk.rate(0, wrong));
        }
    }

    private static void pays() {
        MemoryDesk desk = desk("abcd;abcd;ab");
        desk.assign(0, 0);
        equal("pays(4, 70)", desk.pays(4, 70), 100);
        equal("pays(4, 50)", desk.pays(4, 50), 70);
        equal("pays(0, 0)", desk.pays(0, 0), 10);
        equal("pays(1, 100)", desk.pays(1, 100), 30);
        equal("the percentage", desk.band(4, 0), 50);
        equal("a fixed percentage stays", desk.segment(0, 6), 100);
        equal("pay by the fixed percentage", desk.deliver(0), 40);
        desk.assign(2, 1);
        equal("match 66 is band 3", desk.segment(2, 6), 80);
        desk.pays(3, 41);
        equal("a fixed percentage stays", desk.segment(2, 6), 80);
        change(desk, 2, "ba");
        equal("a change fixes anew", desk.segment(2, 6), 50);
        for (int wrong : new int[] {-1, 5, MIN, MAX}) {
            refused("pays(" + wrong + ", 5)", desk, INDEX, () -> desk.pays(wrong, 5));
            refused("pays(" + wrong + ", 101)", desk, INDEX, () -> desk.pays(wrong, 101));
        }
        for (int wrong : new int[] {-1, 101, MIN, MAX}) {
            refused("pays(0, " + wrong + ")", desk, ARGUMENT, () -> desk.pays(0, wrong));
        }
    }

    private static void set() {
        MemoryDesk desk = new MemoryDesk();
        equal("set(0, 100)", desk.set(0, 100), 30);
        equal("set(0, 0)", desk.set(0, 0), 100);
        equal("set(1, 200)", desk.set(1, 200), 50);
        equal("set(1, 0)", desk.set(1, 0), 200);
        equal("set(1, 101)", desk.set(1, 101), 0);
        equal("setting 0", desk.setting(0), 0);
        equal("setting 1", desk.setting(1), 101);
        equal("set saves each time", desk.count(11), 5);
        for (int wrong : new int[] {-1, 2, MIN, MAX}) {
            refused("set(" + wrong + ", 5)", desk, INDEX, () -> desk.set(wrong, 5));
            refused("set(" + wrong + ", -1)", desk, INDEX, () -> desk.set(wrong, -1));
        }
        for (int wrong : new int[] {-1, 101, MIN, MAX}) {
            refused("set(0, " + wrong + ")", desk, ARGUMENT, () -> desk.set(0, wrong));
        }
        for (int wrong : new int[] {-1, 201, MIN, MAX}) {
            refused("set(1, " + wrong + ")", desk, ARGUMENT, () -> desk.set(1, wrong));
        }
    }

    // ---- promise 5

    private static void assign() {
        MemoryDesk desk = desk("abcd;abcd;abcd;hg");
        equal("assign without rows", desk.assign(0, 2), 4);
        Check.equal("assigned", properties(desk, 0), "[4, 1, 2, 0, -1, 4, 100, 0, 0, -1, 0, 0]");
        equal("assigned segments of 2", desk.translator(2, 2), 1);
        desk.deliver(0);
        equal("assign one alike", desk.assign(1, 3), 0);
        equal("its percentage", desk.segment(1, 6), 10);
        equal("assign saves", desk.count(11), 4);
        for (int wrong : new int[] {-1, 4, MIN, MAX}) {
            refused("assign(" + wrong + ", 0)", desk, INDEX, () -> desk.assign(wrong, 0));
            refused("assign(2, " + wrong + ")", desk, INDEX, () -> desk.assign(2, wrong));
            refused("assign(1, " + wrong + ")", desk, INDEX, () -> desk.assign(1, wrong));
        }
        refused("assign a delivered one", desk, STATE, () -> desk.assign(0, 2));
        refused("assign an assigned one", desk, STATE, () -> desk.assign(1, 3));
        desk.revise(0, 0, 0);
        refused("assign a revised one", desk, STATE, () -> desk.assign(0, 2));
    }

    /** A row is delivered; then another one with the match that is told is assigned. */
    private static void bandBetween(String row, String other, int match, int band) {
        MemoryDesk desk = desk(row + ";" + other);
        finish(desk, 0, 0);
        equal(row + " and " + other + ": match", desk.segment(1, 3), match);
        equal(row + " and " + other + ": band", desk.assign(1, 0), band);
        equal(row + " and " + other + ": fixed band", desk.segment(1, 5), band);
        int[] percents = {10, 30, 60, 80, 100};
        equal(row + " and " + other + ": percentage", desk.segment(1, 6), percents[band]);
    }

    private static void assignAtTheEdgesOfBands() {
        bandBetween("abcdefghabcd", "abcdefghabcd", 100, 0);
        bandBetween("abcdefghabc", "abcdefghabcd", 95, 1);
        bandBetween("abcdef", "abcdefgh", 85, 1);
        bandBetween("abcdefgh", "abcdefghabc", 84, 2);
        bandBetween("aaaaaaabbb", "aaaaaaaccc", 70, 2);
        bandBetween("aaaaaaaabbb", "aaaaaaaacccc", 69, 3);
        bandBetween("a", "abc", 50, 3);
        bandBetween("abab", "baba", 75, 2);
        bandBetween("aaaaabbbbb", "aaaaaccccc", 50, 3);
        bandBetween("aaaaabbbbb", "aaaaacccccc", 47, 4);
        bandBetween("ab", "cd", 0, 4);
    }

    // ---- promise 6

    private static void deliver() {
        MemoryDesk desk = desk("abc;abcde;hg");
        desk.assign(0, 1);
        desk.rate(1, 7);
        desk.pays(4, 33);
        equal("deliver(0)", desk.deliver(0), 21);
        Check.equal("delivered", properties(desk, 0), "[3, 2, 1, 100, 0, 4, 100, 21, 0, -1, 0, 0]");
        Check.equal("its translator", propertiesOfTranslator(desk, 1), "[7, 21, 0, 3, 0, 0, 0]");
        Check.equal("its band", propertiesOfBand(desk, 4), "[33, 3, 21]");
        Check.equal("the row", rowOfMemory(desk, 0), "abc.........");
        desk.assign(1, 1);
        desk.pays(2, 0);
        equal("abcde has the match 75 with abc", desk.deliver(1), 5 * 7 * 60 / 100);
        Check.equal("the row", rowOfMemory(desk, 1), "abcde.......");
        Check.equal("its band", propertiesOfBand(desk, 2), "[0, 5, 21]");
        desk.pays(4, 99);
        desk.assign(2, 1);
        equal("2 * 7 * 99 / 100, rounded down", desk.deliver(2), 13);
        equal("earned", desk.translator(1, 1), 21 + 21 + 13);
        equal("deliver saves", desk.count(11), 6);
        for (int wrong : new int[] {-1, 3, MIN, MAX}) {
            refused("deliver(" + wrong + ")", desk, INDEX, () -> desk.deliver(wrong));
        }
        refused("deliver a delivered one", desk, STATE, () -> desk.deliver(0));
        desk.revise(0, 0, 1);
        refused("deliver a revised one", desk, STATE, () -> desk.deliver(0));
        MemoryDesk open = desk("abc");
        refused("deliver an open one", open, STATE, () -> open.deliver(0));
        MemoryDesk dear = desk("abcdefghabcd");
        dear.rate(3, 99);
        dear.assign(0, 3);
        equal("the greatest pay", dear.deliver(0), 1188);
    }

    private static void deliverDisputed() {
        MemoryDesk desk = desk("abc;de");
        desk.assign(0, 0);
        desk.assign(1, 0);
        desk.propose(2, 0, 4);
        desk.propose(2, 3, 5);
        equal("disputed", desk.segment(0, 11), 1);
        equal("not disputed", desk.segment(1, 11), 0);
        refused("deliver a disputed one", desk, STATE, () -> desk.deliver(0));
        equal("deliver another one", desk.deliver(1), 20);
        desk.propose(2, 3, 4);
        equal("alike proposals are no dispute", desk.segment(0, 11), 0);
        desk.propose(2, 3, 6);
        desk.rule(2, 6);
        equal("a ruling ends the dispute", desk.segment(0, 11), 0);
        equal("deliver it", desk.deliver(0), 30);
    }

    private static void deliverBeyondTheMemory() {
        MemoryDesk desk = fullMemory();
        equal("30 rows", desk.count(5), 30);
        Check.equal("row 0", rowOfMemory(desk, 0), "a...........");
        Check.equal("row 29", rowOfMemory(desk, 29), "abcdef......");
        refused("remembered(30, 0)", desk, INDEX, () -> desk.remembered(30, 0));
        finish(desk, 1, 1);
        equal("still 30 rows", desk.count(5), 30);
        Check.equal("row 0 was 1", rowOfMemory(desk, 0), "ab..........");
        Check.equal("row 28 was 29", rowOfMemory(desk, 28), "abcdef......");
        Check.equal("row 29 is new", rowOfMemory(desk, 29), "h...........");
        finish(desk, 2, 1);
        Check.equal("row 0 was 2", rowOfMemory(desk, 0), "abc.........");
        Check.equal("row 28 was 29", rowOfMemory(desk, 28), "h...........");
        Check.equal("row 29 is new", rowOfMemory(desk, 29), "gh..........");
        refused("remembered(30, 0)", desk, INDEX, () -> desk.remembered(30, 0));
        desk.undo();
        desk.undo();
        Check.equal("undone: row 0", rowOfMemory(desk, 0), "ab..........");
    }

    // ---- promise 7

    private static void revise() {
        MemoryDesk desk = desk("abcd;ef;g");
        finish(desk, 0, 1);
        desk.rate(1, 90);
        desk.rate(2, 23);
        equal("revise(0, 2, 3)", desk.revise(0, 2, 3), 40 - 3 * 10 * 50 / 100);
        Check.equal("revised", properties(desk, 0), "[4, 3, 1, 100, 0, 4, 100, 25, 0, 2, 3, 0]");
        Check.equal("its translator", propertiesOfTranslator(desk, 1), "[90, 25, 0, 4, 0, 3, 0]");
        Check.equal("who revised it", propertiesOfTranslator(desk, 2), "[23, 27, 0, 0, 3, 0, 0]");
        Check.equal("bands do not count it", propertiesOfBand(desk, 4), "[100, 4, 40]");
        equal("earned by all", desk.count(8), 52);
        equal("revise saves", desk.count(11), 6);
        finish(desk, 1, 0);
        for (int wrong : new int[] {-1, 3, MIN, MAX}) {
            refused("revise(" + wrong + ", 1, 0)", desk, INDEX, () -> desk.revise(wrong, 1, 0));
        }
        for (int wrong : new int[] {-1, 4, MIN, MAX}) {
            refused("revise(1, " + wrong + ", 0)", desk, INDEX, () -> desk.revise(1, wrong, 0));
            refused("revise(1, " + wrong + ", 3)", desk, INDEX, () -> desk.revise(1, wrong, 3));
        }
        for (int wrong : new int[] {-1, 3, MIN, MAX}) {
            refused("revise(1, 1, " + wrong + ")", desk, ARGUMENT, () -> desk.revise(1, 1, wrong));
            refused("revise(1, 0, " + wrong + ")", desk, ARGUMENT, () -> desk.revise(1, 0, wrong));
        }
        refused("revise(0, 3, 5)", desk, ARGUMENT, () -> desk.revise(0, 3, 5));
        refused("revise by its own", desk, STATE, () -> desk.revise(1, 0, 0));
        refused("revise a revised one", desk, STATE, () -> desk.revise(0, 3, 0));
        refused("revise an open one", desk, STATE, () -> desk.revise(2, 3, 0));
        desk.assign(2, 0);
        refused("revise an assigned one", desk, STATE, () -> desk.revise(2, 3, 0));
        equal("no words changed", desk.revise(1, 3, 0), 20);
        equal("stage", desk.segment(1, 1), 3);
        equal("who", desk.segment(1, 9), 3);
        equal("the fee is for all words", desk.translator(3, 1), 6);
    }

    private static void reviseDownToNothing() {
        MemoryDesk desk = desk("abc;abcd;abc");
        desk.set(0, 99);
        desk.set(1, 200);
        desk.rate(0, 7);
        desk.rate(2, 5);
        finish(desk, 0, 0);
        equal("all words changed", desk.revise(0, 2, 3), 0);
        Check.equal("its translator", propertiesOfTranslator(desk, 0), "[7, 0, 0, 3, 0, 3, 0]");
        Check.equal("14.85, rounded down", propertiesOfTranslator(desk, 2), "[5, 14, 0, 0, 3, 0, 0]");
        desk.set(1, 33);
        finish(desk, 1, 0);
        equal("match 85 pays 30", desk.segment(1, 7), 8);
        equal("1 * 7 * 33 / 100, rounded down", desk.revise(1, 1, 1), 6);
        finish(desk, 2, 0);
        equal("match 100 pays 10", desk.segment(2, 7), 2);
        equal("less than the pay that is there", desk.revise(2, 1, 3), 0);
        equal("earned", desk.translator(0, 1), 6);
        equal("others changed", desk.translator(0, 5), 7);
        equal("changed for others", desk.translator(1, 4), 4);
    }

    // ---- promises 8 and 9

    private static void propose() {
        MemoryDesk desk = desk("ab");
        equal("propose(1, 2, 9)", desk.propose(1, 2, 9), NONE);
        equal("propose(1, 2, 0)", desk.propose(1, 2, 0), 9);
        equal("propose(1, 2, NONE)", desk.propose(1, 2, NONE), 0);
        equal("propose(1, 2, NONE) again", desk.propose(1, 2, NONE), NONE);
        equal("propose(7, 3, 4)", desk.propose(7, 3, 4), NONE);
        equal("the proposal", desk.term(7, 3), 4);
        equal("propose saves each time", desk.count(11), 6);
        desk.propose(0, 0, 1);
        desk.rule(0, 1);
        for (int wrong : new int[] {-1, 8, MIN, MAX}) {
            refused("propose(" + wrong + ", 0, 1)", desk, INDEX, () -> desk.propose(wrong, 0, 1));
            refused("propose(" + wrong + ", 0, 10)", desk, INDEX, () -> desk.propose(wrong, 0, 10));
        }
        for (int wrong : new int[] {-1, 4, MIN, MAX}) {
            refused("propose(0, " + wrong + ", 1)", desk, INDEX, () -> desk.propose(0, wrong, 1));
            refused("propose(1, " + wrong + ", 10)", desk, INDEX, () -> desk.propose(1, wrong, 10));
        }
        for (int wrong : new int[] {-2, 10, MIN, MAX}) {
            refused("propose(0, 0, " + wrong + ")", desk, ARGUMENT, () -> desk.propose(0, 0, wrong));
            refused("propose(1, 0, " + wrong + ")", desk, ARGUMENT, () -> desk.propose(1, 0, wrong));
        }
        refused("propose for a ruled word", desk, STATE, () -> desk.propose(0, 1, 2));
        refused("take back for a ruled word", desk, STATE, () -> desk.propose(0, 0, NONE));
    }

    private static void rule() {
        MemoryDesk desk = desk("ab");
        desk.propose(0, 0, 3);
        desk.propose(0, 1, 5);
        desk.propose(0, 2, 3);
        for (int wrong : new int[] {-1, 8, MIN, MAX}) {
            refused("rule(" + wrong + ", 1)", desk, INDEX, () -> desk.rule(wrong, 1));
            refused("rule(" + wrong + ", 10)", desk, INDEX, () -> desk.rule(wrong, 10));
        }
        for (int wrong : new int[] {-1, 10, MIN, MAX}) {
            refused("rule(0, " + wrong + ")", desk, ARGUMENT, () -> desk.rule(0, wrong));
            refused("rule(1, " + wrong + ")", desk, ARGUMENT, () -> desk.rule(1, wrong));
        }
        refused("rule for what nobody has", desk, STATE, () -> desk.rule(0, 4));
        refused("rule without proposals", desk, STATE, () -> desk.rule(1, 3));
        equal("rule(0, 5)", desk.rule(0, 5), 2);
        Check.equal("ruled", propertiesOfTerm(desk, 0), "[3, 5, 3, -1, 5, 0, 2, 1]");
        equal("rule saves", desk.count(11), 5);
        refused("rule again", desk, STATE, () -> desk.rule(0, 5));
        refused("rule for another one", desk, STATE, () -> desk.rule(0, 3));
        desk.undo();
        equal("rule(0, 3)", desk.rule(0, 3), 1);
        desk.propose(7, 3, 0);
        equal("rule(7, 0) for the only one", desk.rule(7, 0), 0);
        equal("ruled words", desk.count(10), 2);
    }

    // ---- promises 10 to 12

    private static void append() {
        MemoryDesk desk = new MemoryDesk();
        equal("append(33)", desk.append(33), 1);
        equal("append(126)", desk.append(126), 2);
        for (int wrong : new int[] {32, 127, -1, 0, MIN, MAX}) {
            refused("append(" + wrong + ")", desk, ARGUMENT, () -> desk.append(wrong));
        }
        for (int length = 3; length <= 60; length++) {
            equal("append(97)", desk.append(97), length);
        }
        refused("append to 60 characters", desk, STATE, () -> desk.append(97));
        refused("append(32) to 60 characters", desk, ARGUMENT, () -> desk.append(32));
        equal("append is not undoable", desk.count(11), 0);
        equal("60 characters", desk.clearBuffer(), 60);
        equal("append(98)", desk.append(98), 1);
    }

    private static void clearBuffer() {
        MemoryDesk desk = desk("ab");
        equal("clearBuffer", desk.clearBuffer(), 0);
        type(desk, "xyz");
        equal("clearBuffer", desk.clearBuffer(), 3);
        equal("clearBuffer again", desk.clearBuffer(), 0);
        equal("clearBuffer is not undoable", desk.count(11), 1);
        type(desk, "ab");
        equal("nothing is left of it", desk.firstError(), 2);
    }

    private static void errorAt(String text, int index) {
        MemoryDesk desk = new MemoryDesk();
        type(desk, text);
        equal("firstError of " + text, desk.firstError(), index);
        equal("the buffer stays", desk.clearBuffer(), text.length());
    }

    private static void firstError() {
        errorAt("", 0);
        errorAt("a", 1);
        errorAt("h", 1);
        errorAt("i", 0);
        errorAt("`", 0);
        errorAt("A", 0);
        errorAt("ab;", 3);
        errorAt(";", 0);
        errorAt("ab;;", 3);
        errorAt("ab:a", 2);
        errorAt("ab<a", 2);
        errorAt("abcdefghabcd", 12);
        errorAt("abcdefghabcda", 12);
        errorAt("abcdefghabcd;abcdefghabcdh", 25);
        errorAt("abcdefghabcd;abcdefghabcd;", 26);
        errorAt("a;b;c;d;e;f;g;h;a;b;c;d;e", 25);
        errorAt("ab!cd;;", 2);
        errorAt("a;b;c;d;e;f;g;h;a;b;c;d;e;f;g;h;a;b;c;d;e;f;g;h;a;b;c;d;ef;;", 59);
    }

    // ---- promises 13 and 14

    private static void badText(String text) {
        MemoryDesk desk = desk("ab");
        type(desk, text);
        refused("add of " + text, desk, ARGUMENT, () -> desk.add());
        refused("change to " + text, desk, ARGUMENT, () -> desk.change(0));
        refused("change(1) to " + text, desk, INDEX, () -> desk.change(1));
    }

    private static void add() {
        MemoryDesk desk = new MemoryDesk();
        type(desk, "abcdefghabcd;h");
        equal("add", desk.add(), 2);
        equal("the buffer is cleared", desk.clearBuffer(), 0);
        Check.equal("segment 0", source(desk, 0), "abcdefghabcd");
        Check.equal("segment 1", source(desk, 1), "h...........");
        Check.equal("open", properties(desk, 1), "[1, 0, -1, 0, -1, -1, -1, 0, 0, -1, 0, 0]");
        equal("add is one call for undo", desk.count(11), 1);
        type(desk, "a;b;c;d;e;f;g;h");
        equal("add up to 10", desk.add(), 10);
        Check.equal("segment 9", source(desk, 9), "h...........");
        type(desk, "a");
        refused("an eleventh one", desk, STATE, () -> desk.add());
        type(desk, ";");
        refused("an eleventh one, not complete", desk, ARGUMENT, () -> desk.add());
        desk.clearBuffer();
        desk.undo();
        equal("all are undone", desk.count(0), 2);
        type(desk, "a;b;c;d;e;f;g;h;a");
        refused("all or none", desk, STATE, () -> desk.add());
        equal("none", desk.count(0), 2);
        for (String text : new String[] {"", ";", "a;", "a;;b", "ai", "a;b;", "abcdefghabcda", "A"}) {
            badText(text);
        }
    }

    private static void change() {
        MemoryDesk desk = desk("abcd;ab;abce;hgfe");
        equal("an open one", change(desk, 0, "abcdefghabcd"), 0);
        Check.equal("its source", source(desk, 0), "abcdefghabcd");
        Check.equal("still open", properties(desk, 0), "[12, 0, -1, 0, -1, -1, -1, 0, 0, -1, 0, 0]");
        equal("the buffer is cleared", desk.clearBuffer(), 0);
        equal("change saves", desk.count(11), 2);
        change(desk, 0, "abcd");
        finish(desk, 0, 2);
        desk.assign(1, 3);
        equal("match 66", desk.segment(1, 5), 3);
        equal("an assigned one", change(desk, 1, "abcd"), 1);
        Check.equal("fixed anew", properties(desk, 1), "[4, 1, 3, 100, 0, 0, 10, 0, 0, -1, 0, 0]");
        equal("a delivered one", change(desk, 0, "abce"), 1);
        Check.equal("fixed anew", properties(desk, 0), "[4, 1, 2, 75, 0, 2, 60, 0, 40, -1, 0, 0]");
        Check.equal("rows stay", rowOfMemory(desk, 0), "abcd........");
        equal("money stays", desk.translator(2, 1), 40);
        equal("delivered words stay", desk.translator(2, 3), 4);
        equal("assigned to 2", desk.translator(2, 2), 1);
        for (int wrong : new int[] {-1, 4, MIN, MAX}) {
            refused("change(" + wrong + ")", desk, INDEX, () -> desk.change(wrong));
        }
        refused("change without a text", desk, ARGUMENT, () -> desk.change(0));
        type(desk, "ab;cd");
        refused("change to two", desk, ARGUMENT, () -> desk.change(0));
    }

    private static void changeAgain() {
        MemoryDesk desk = desk("abcd");
        finish(desk, 0, 2);
        desk.revise(0, 1, 2);
        equal("a revised one", change(desk, 0, "abce"), 1);
        Check.equal("assigned again", properties(desk, 0), "[4, 1, 2, 75, 0, 2, 60, 0, 30, -1, 0, 0]");
        equal("words changed stay", desk.translator(1, 4), 2);
        equal("words changed by others stay", desk.translator(2, 5), 2);
        equal("delivered again", desk.deliver(0), 24);
        equal("earlier pay", desk.segment(0, 8), 30);
        equal("words delivered again", desk.translator(2, 3), 8);
        equal("two rows", desk.count(5), 2);
        equal("changed again", change(desk, 0, "h"), 1);
        equal("earlier pay adds up", desk.segment(0, 8), 54);
        equal("and again, with nothing new", change(desk, 0, "hh"), 1);
        equal("earlier pay stays", desk.segment(0, 8), 54);
        equal("money stays", desk.translator(2, 1), 54);
        desk.rate(2, 20);
        desk.deliver(0);
        equal("the rate of the last delivery", desk.revise(0, 1, 1), 40 - 10);
    }

    // ---- promise 15

    private static void undo() {
        MemoryDesk desk = new MemoryDesk();
        type(desk, "ab;cd");
        long before = desk.digest();
        desk.add();
        desk.rate(0, 50);
        type(desk, "xy");
        equal("undo of rate", desk.undo(), 1);
        equal("the rate", desk.translator(0, 0), 10);
        equal("undo of add", desk.undo(), 0);
        equal("no segments", desk.count(0), 0);
        equal("the buffer stays", desk.clearBuffer(), 2);
        refused("undo of nothing", desk, STATE, () -> desk.undo());
        type(desk, "ab;cd");
        equal("all but the buffer as before", desk.digest(), before);
    }

    /** Undo behind the call must answer with the digest from before it. */
    private static void undone(String what, MemoryDesk desk, Check.Call call) {
        desk.clearBuffer();
        long before = desk.digest();
        int states = desk.count(11);
        call.answer();
        desk.clearBuffer();
        equal(what + " saves one state", desk.count(11), states + 1);
        equal(what + " changes something", desk.digest() == before ? 0 : 1, 1);
        equal("undo of " + what, desk.undo(), states);
        equal("the digest behind undo of " + what, desk.digest(), before);
    }

    private static void undoOfEachCall() {
        MemoryDesk desk = desk("abcd;bcd;abc");
        undone("rate", desk, () -> desk.rate(2, 77));
        undone("pays", desk, () -> desk.pays(2, 77));
        undone("set", desk, () -> desk.set(1, 77));
        undone("assign", desk, () -> desk.assign(2, 1));
        undone("propose", desk, () -> desk.propose(2, 1, 3));
        desk.propose(1, 3, 5);
        undone("rule", desk, () -> desk.rule(1, 5));
        undone("change of an open one", desk, () -> change(desk, 1, "gg"));
        desk.assign(0, 3);
        undone("deliver", desk, () -> desk.deliver(0));
        desk.deliver(0);
        undone("revise", desk, () -> desk.revise(0, 1, 4));
        undone("change of a delivered one", desk, () -> change(desk, 0, "gg"));
        desk.undo();
        desk.undo();
        undone("add", desk, () -> {
            type(desk, "e;f");
            return desk.add();
        });
    }

    /** The rate at the delivery is told by no look; only a revision shows it. */
    private static void undoOfALaterRate() {
        MemoryDesk desk = desk("abcd");
        finish(desk, 0, 0);
        desk.rate(0, 40);
        change(desk, 0, "hhhh");
        desk.deliver(0);
        desk.undo();
        desk.undo();
        equal("the rate of the first delivery", desk.revise(0, 1, 2), 40 - 2 * 10 * 50 / 100);
    }

    /** A place of a segment that was undone must be like new for the next one. */
    private static void undoLeavesNothing() {
        MemoryDesk desk = desk("abcd");
        type(desk, "ab;cd");
        desk.add();
        finish(desk, 1, 0);
        desk.revise(1, 2, 1);
        desk.undo();
        desk.undo();
        desk.undo();
        desk.undo();
        type(desk, "gh;ef");
        desk.add();
        Check.equal("segment 1", properties(desk, 1), "[2, 0, -1, 0, -1, -1, -1, 0, 0, -1, 0, 0]");
        finish(desk, 1, 0);
        change(desk, 1, "gg");
        desk.undo();
        desk.undo();
        desk.undo();
        desk.undo();
        type(desk, "ee;ef");
        desk.add();
        Check.equal("segment 1", properties(desk, 1), "[2, 0, -1, 0, -1, -1, -1, 0, 0, -1, 0, 0]");
    }

    private static void undoKeepsSixStates() {
        MemoryDesk desk = new MemoryDesk();
        for (int rate = 1; rate <= 20; rate++) {
            desk.rate(0, rate);
            equal("states", desk.count(11), Math.min(rate, 6));
        }
        refused("a refused call saves nothing", desk, ARGUMENT, () -> desk.rate(0, 100));
        for (int left = 5; left >= 0; left--) {
            equal("undo", desk.undo(), left);
            equal("the rate before it", desk.translator(0, 0), 14 + left);
        }
        refused("older ones are dropped", desk, STATE, () -> desk.undo());
        desk.rate(0, 14);
        equal("a call that changes nothing saves too", desk.count(11), 1);
        desk.rate(0, 30);
        desk.rate(0, 31);
        desk.undo();
        desk.rate(0, 40);
        desk.undo();
        equal("undo, a call, undo", desk.translator(0, 0), 30);
        equal("undo", desk.undo(), 1);
        equal("undo", desk.undo(), 0);
        equal("the oldest rate", desk.translator(0, 0), 14);
    }

    // ---- promises 16 to 23

    private static void segment() {
        MemoryDesk desk = desk("ab;ab;abb;gh;ac");
        finish(desk, 0, 3);
        finish(desk, 1, 2);
        Check.equal("the latest of two best rows", properties(desk, 0),
                "[2, 2, 3, 100, 1, 4, 100, 20, 0, -1, 0, 0]");
        Check.equal("by the memory as it is now", properties(desk, 2),
                "[3, 0, -1, 80, 1, -1, -1, 0, 0, -1, 0, 0]");
        Check.equal("the latest row with the match 0", properties(desk, 3),
                "[2, 0, -1, 0, 1, -1, -1, 0, 0, -1, 0, 0]");
        finish(desk, 4, 0);
        equal("not the latest row of all", desk.segment(2, 4), 1);
        equal("a later one is not as near", desk.segment(4, 4), 2);
        desk.propose(6, 0, 1);
        desk.propose(6, 1, 2);
        equal("disputed", desk.segment(3, 11), 1);
        equal("not disputed", desk.segment(2, 11), 0);
        for (int wrong : new int[] {-1, 5, MIN, MAX}) {
            refused("segment(" + wrong + ", 0)", desk, INDEX, () -> desk.segment(wrong, 0));
            refused("segment(" + wrong + ", 12)", desk, INDEX, () -> desk.segment(wrong, 12));
        }
        for (int wrong : new int[] {-1, 12, MIN, MAX}) {
            refused("segment(0, " + wrong + ")", desk, ARGUMENT, () -> desk.segment(0, wrong));
        }
    }

    private static void word() {
        MemoryDesk desk = desk("hgfedcbaabcd;c");
        Check.equal("all places", source(desk, 0), "hgfedcbaabcd");
        Check.equal("one place", source(desk, 1), "c...........");
        for (int wrong : new int[] {-1, 2, MIN, MAX}) {
            refused("word(" + wrong + ", 0)", desk, INDEX, () -> desk.word(wrong, 0));
            refused("word(" + wrong + ", 12)", desk, INDEX, () -> desk.word(wrong, 12));
        }
        for (int wrong : new int[] {-1, 12, MIN, MAX}) {
            refused("word(0, " + wrong + ")", desk, ARGUMENT, () -> desk.word(0, wrong));
        }
    }

    private static void remembered() {
        MemoryDesk desk = desk("hgfedcbaabcd;c;a");
        refused("an empty memory", desk, INDEX, () -> desk.remembered(0, 0));
        finish(desk, 1, 0);
        finish(desk, 0, 0);
        Check.equal("row 0", rowOfMemory(desk, 0), "c...........");
        Check.equal("row 1", rowOfMemory(desk, 1), "hgfedcbaabcd");
        change(desk, 1, "e");
        Check.equal("rows stay", rowOfMemory(desk, 0), "c...........");
        for (int wrong : new int[] {-1, 2, MIN, MAX}) {
            refused("remembered(" + wrong + ", 0)", desk, INDEX, () -> desk.remembered(wrong, 0));
            refused("remembered(" + wrong + ", 12)", desk, INDEX, () -> desk.remembered(wrong, 12));
        }
        for (int wrong : new int[] {-1, 12, MIN, MAX}) {
            refused("remembered(0, " + wrong + ")", desk, ARGUMENT, () -> desk.remembered(0, wrong));
        }
    }

    private static void translator() {
        MemoryDesk desk = desk("ab;cd;ef;g");
        desk.assign(0, 1);
        desk.assign(1, 1);
        desk.assign(2, 1);
        desk.deliver(2);
        desk.propose(0, 1, 4);
        desk.propose(7, 1, 5);
        desk.propose(7, 2, 5);
        desk.rule(7, 5);
        Check.equal("translator 1", propertiesOfTranslator(desk, 1), "[10, 20, 2, 2, 0, 0, 2]");
        Check.equal("translator 2", propertiesOfTranslator(desk, 2), "[10, 0, 0, 0, 0, 0, 1]");
        desk.revise(2, 2, 1);
        Check.equal("translator 1", propertiesOfTranslator(desk, 1), "[10, 15, 2, 2, 0, 1, 2]");
        Check.equal("translator 2", propertiesOfTranslator(desk, 2), "[10, 6, 0, 0, 1, 0, 1]");
        change(desk, 2, "e");
        Check.equal("translator 1", propertiesOfTranslator(desk, 1), "[10, 15, 3, 2, 0, 1, 2]");
        desk.propose(0, 1, NONE);
        equal("proposals", desk.translator(1, 6), 1);
        for (int wrong : new int[] {-1, 4, MIN, MAX}) {
            refused("translator(" + wrong + ", 0)", desk, INDEX, () -> desk.translator(wrong, 0));
            refused("translator(" + wrong + ", 7)", desk, INDEX, () -> desk.translator(wrong, 7));
        }
        for (int wrong : new int[] {-1, 7, MIN, MAX}) {
            refused("translator(0, " + wrong + ")", desk, ARGUMENT, () -> desk.translator(0, wrong));
        }
    }

    private static void term() {
        MemoryDesk desk = desk("abaa;acab;hhh");
        equal("how often a is there", desk.term(0, 7), 5);
        equal("how often h is there", desk.term(7, 7), 3);
        equal("how often g is there", desk.term(6, 7), 0);
        change(desk, 0, "g");
        equal("how often a is there then", desk.term(0, 7), 2);
        finish(desk, 1, 0);
        equal("rows of the memory do not count", desk.term(0, 7), 2);
        desk.propose(0, 0, 9);
        desk.propose(0, 1, 9);
        Check.equal("shared", propertiesOfTerm(desk, 0), "[9, 9, -1, -1, -1, 0, 1, 2]");
        desk.propose(0, 2, 0);
        desk.propose(0, 3, 9);
        Check.equal("disputed", propertiesOfTerm(desk, 0), "[9, 9, 0, 9, -1, 1, 2, 2]");
        desk.propose(0, 1, 3);
        Check.equal("disputed", propertiesOfTerm(desk, 0), "[9, 3, 0, 9, -1, 1, 3, 2]");
        desk.rule(0, 0);
        Check.equal("ruled", propertiesOfTerm(desk, 0), "[9, 3, 0, 9, 0, 0, 3, 2]");
        for (int wrong : new int[] {-1, 8, MIN, MAX}) {
            refused("term(" + wrong + ", 0)", desk, INDEX, () -> desk.term(wrong, 0));
            refused("term(" + wrong + ", 8)", desk, INDEX, () -> desk.term(wrong, 8));
            refused("term(0, " + wrong + ")", desk, ARGUMENT, () -> desk.term(0, wrong));
        }
    }

    private static void band() {
        MemoryDesk desk = desk("abcd;abcd;abce");
        finish(desk, 0, 0);
        finish(desk, 1, 1);
        finish(desk, 2, 1);
        Check.equal("band 4", propertiesOfBand(desk, 4), "[100, 4, 40]");
        Check.equal("band 0", propertiesOfBand(desk, 0), "[10, 4, 4]");
        Check.equal("band 2", propertiesOfBand(desk, 2), "[60, 4, 24]");
        Check.equal("band 1", propertiesOfBand(desk, 1), "[30, 0, 0]");
        desk.revise(2, 0, 4);
        Check.equal("revisions do not count", propertiesOfBand(desk, 2), "[60, 4, 24]");
        change(desk, 1, "abce");
        desk.deliver(1);
        Check.equal("delivered again", propertiesOfBand(desk, 0), "[10, 8, 8]");
        for (int wrong : new int[] {-1, 5, MIN, MAX}) {
            refused("band(" + wrong + ", 0)", desk, INDEX, () -> desk.band(wrong, 0));
            refused("band(" + wrong + ", 3)", desk, INDEX, () -> desk.band(wrong, 3));
        }
        for (int wrong : new int[] {-1, 3, MIN, MAX}) {
            refused("band(0, " + wrong + ")", desk, ARGUMENT, () -> desk.band(0, wrong));
        }
    }

    private static void count() {
        MemoryDesk desk = desk("abcd;abce;ab;c;d;e;f");
        desk.assign(0, 0);
        desk.assign(1, 1);
        desk.assign(2, 1);
        desk.assign(3, 1);
        desk.assign(4, 1);
        desk.deliver(0);
        desk.deliver(1);
        desk.deliver(2);
        desk.revise(2, 3, 1);
        desk.propose(5, 0, 1);
        desk.propose(5, 1, 2);
        desk.propose(6, 0, 1);
        desk.propose(6, 1, 2);
        desk.propose(7, 0, 1);
        desk.rule(7, 1);
        Check.equal("counts", counts(desk), "[7, 2, 2, 2, 1, 3, 14, 10, 101, 2, 1, 6]");
        desk.rule(6, 2);
        Check.equal("counts", counts(desk), "[7, 2, 2, 2, 1, 3, 14, 10, 101, 1, 2, 6]");
        for (int wrong : new int[] {-1, 12, MIN, MAX}) {
            refused("count(" + wrong + ")", desk, ARGUMENT, () -> desk.count(wrong));
        }
    }

    private static void setting() {
        MemoryDesk desk = new MemoryDesk();
        desk.set(1, 60);
        equal("setting(0)", desk.setting(0), 30);
        equal("setting(1)", desk.setting(1), 60);
        desk.undo();
        equal("setting(1)", desk.setting(1), 50);
        for (int wrong : new int[] {-1, 2, MIN, MAX}) {
            refused("setting(" + wrong + ")", desk, INDEX, () -> desk.setting(wrong));
        }
    }

    // ---- promises 24 to 29

    private static void near() {
        MemoryDesk desk = desk("abc;abcdefgh;bca;hhhhhhhhhhhh;cba");
        refused("an empty memory", desk, INDEX, () -> desk.near(0, 0, 0));
        finish(desk, 1, 0);
        finish(desk, 2, 0);
        finish(desk, 3, 0);
        equal("3 of 3 + 8", desk.near(0, 0, 0), 54);
        equal("3 of 3 + 8: length", desk.near(0, 0, 1), 3);
        equal("3 of 3 + 8: float", desk.near(0, 0, 2), Float.floatToIntBits(6.0f / 11.0f));
        equal("bc or ca, not bca", desk.near(0, 1, 1), 2);
        equal("2 of 3 + 3", desk.near(0, 1, 0), 66);
        equal("2 of 3 + 3: float", desk.near(0, 1, 2), Float.floatToIntBits(4.0f / 6.0f));
        equal("nothing in common", desk.near(0, 2, 0), 0);
        equal("nothing in common: float", desk.near(0, 2, 2), 0);
        equal("alike", desk.near(3, 2, 0), 100);
        equal("alike: length", desk.near(3, 2, 1), 12);
        equal("alike: float", desk.near(3, 2, 2), Float.floatToIntBits(1.0f));
        equal("the order counts", desk.near(4, 0, 1), 1);
        equal("one h", desk.near(1, 2, 1), 1);
        equal("one h: float", desk.near(1, 2, 2), Float.floatToIntBits(2.0f / 20.0f));
        for (int wrong : new int[] {-1, 5, MIN, MAX}) {
            refused("near(" + wrong + ", 0, 0)", desk, INDEX, () -> desk.near(wrong, 0, 0));
            refused("near(" + wrong + ", 0, 3)", desk, INDEX, () -> desk.near(wrong, 0, 3));
        }
        for (int wrong : new int[] {-1, 3, MIN, MAX}) {
            refused("near(0, " + wrong + ", 0)", desk, INDEX, () -> desk.near(0, wrong, 0));
            refused("near(0, " + wrong + ", 3)", desk, INDEX, () -> desk.near(0, wrong, 3));
            refused("near(0, 0, " + wrong + ")", desk, ARGUMENT, () -> desk.near(0, 0, wrong));
        }
    }

    private static void common() {
        MemoryDesk desk = desk("ab;ba;bdcaba;abcbdab;hgfedcba;cab;dbca;gh");
        Check.equal("with itself", commonRow(desk, 4, 4), "hgfedcba....");
        Check.equal("a or b: a", commonRow(desk, 0, 1), "a...........");
        Check.equal("bcba, bcab or bdab", commonRow(desk, 2, 3), "bcab........");
        Check.equal("the other way round", commonRow(desk, 3, 2), "bcab........");
        Check.equal("one after the other", commonRow(desk, 4, 5), "ca..........");
        Check.equal("dba or dca", commonRow(desk, 4, 6), "dba.........");
        Check.equal("g or h: g", commonRow(desk, 4, 7), "g...........");
        Check.equal("nothing in common", commonRow(desk, 0, 7), "............");
        MemoryDesk twins = desk("abcdefghabcd;abcdefghabcd;aaaaaaaaaaaa");
        Check.equal("12 places", commonRow(twins, 0, 1), "abcdefghabcd");
        Check.equal("two of 12", commonRow(twins, 0, 2), "aa..........");
        for (int wrong : new int[] {-1, 8, MIN, MAX}) {
            refused("common(" + wrong + ", 0, 0)", desk, INDEX, () -> desk.common(wrong, 0, 0));
            refused("common(0, " + wrong + ", 0)", desk, INDEX, () -> desk.common(0, wrong, 0));
            refused("common(0, " + wrong + ", 12)", desk, INDEX, () -> desk.common(0, wrong, 12));
        }
        for (int wrong : new int[] {-1, 12, MIN, MAX}) {
            refused("common(0, 0, " + wrong + ")", desk, ARGUMENT, () -> desk.common(0, 0, wrong));
        }
    }

    private static void ifPaid() {
        MemoryDesk desk = desk("abc;abc;abce");
        desk.rate(2, 33);
        equal("an open one", desk.ifPaid(0, 2), 99);
        equal("another translator", desk.ifPaid(0, 0), 30);
        desk.assign(1, 0);
        finish(desk, 0, 0);
        equal("the fixed percentage", desk.ifPaid(1, 2), 99);
        equal("the one that would be fixed, 85.7", desk.ifPaid(2, 2), 4 * 33 * 30 / 100);
        desk.pays(1, 7);
        equal("the one that would be fixed now", desk.ifPaid(2, 2), 4 * 33 * 7 / 100);
        equal("delivered: the fixed one", desk.ifPaid(0, 2), 99);
        equal("nothing is changed", desk.segment(2, 1), 0);
        for (int wrong : new int[] {-1, 3, MIN, MAX}) {
            refused("ifPaid(" + wrong + ", 0)", desk, INDEX, () -> desk.ifPaid(wrong, 0));
        }
        for (int wrong : new int[] {-1, 4, MIN, MAX}) {
            refused("ifPaid(0, " + wrong + ")", desk, INDEX, () -> desk.ifPaid(0, wrong));
        }
    }

    private static void orderMatters() {
        MemoryDesk desk = desk("abcd;ab;gh;abcd;cdef");
        equal("400 + 2 * 80 less 200 + 4 * 80", desk.orderMatters(0, 1), 560 - 520);
        equal("the other way round", desk.orderMatters(1, 0), 520 - 560);
        equal("nothing in common", desk.orderMatters(0, 2), 0);
        equal("alike", desk.orderMatters(0, 3), 0);
        desk.propose(0, 0, 1);
        desk.propose(0, 1, 2);
        equal("terms do not matter", desk.orderMatters(0, 1), 40);
        finish(desk, 4, 0);
        equal("with a memory: 320 + 160 less 200 + 320", desk.orderMatters(0, 1), -40);
        equal("the memory stays", desk.count(5), 1);
        for (int wrong : new int[] {-1, 5, MIN, MAX}) {
            refused("orderMatters(" + wrong + ", 0)", desk, INDEX, () -> desk.orderMatters(wrong, 0));
            refused("orderMatters(0, " + wrong + ")", desk, INDEX, () -> desk.orderMatters(0, wrong));
            refused("orderMatters of none twice", desk, INDEX, () -> desk.orderMatters(wrong, wrong));
        }
        refused("orderMatters(0, 0)", desk, ARGUMENT, () -> desk.orderMatters(0, 0));
        refused("orderMatters(4, 4)", desk, ARGUMENT, () -> desk.orderMatters(4, 4));
        refused("the second one is delivered", desk, STATE, () -> desk.orderMatters(0, 4));
        refused("the first one is delivered", desk, STATE, () -> desk.orderMatters(4, 0));
        desk.assign(3, 0);
        refused("an assigned one", desk, STATE, () -> desk.orderMatters(3, 0));
    }

    /** The only row with a "g" is the first one of 30; the next delivery drops it. */
    private static void orderMattersWithAFullMemory() {
        MemoryDesk desk = desk("ggg;ggg;hh");
        finish(desk, 0, 0);
        for (int row = 1; row < 29; row++) {
            change(desk, 0, "a");
            desk.deliver(0);
        }
        equal("29 rows: 30 + 200 both ways", desk.orderMatters(1, 2), 0);
        change(desk, 0, "a");
        desk.deliver(0);
        equal("30 rows", desk.count(5), 30);
        equal("30 + 200 less 200 + 300", desk.orderMatters(1, 2), -270);
        equal("the row is still there", desk.remembered(0, 2), 6);
        equal("and matches", desk.segment(1, 3), 100);
    }

    private static void saved() {
        MemoryDesk desk = desk("abcd;abcde;h");
        equal("nothing is saved", desk.saved(), 0);
        finish(desk, 0, 0);
        equal("4 * 90 + 5 * 70 of 1000", desk.saved(), Float.floatToIntBits(710.0f / 1000.0f));
        desk.pays(4, 99);
        equal("4 * 90 + 5 * 70 + 1 of 1000", desk.saved(), Float.floatToIntBits(711.0f / 1000.0f));
        desk.pays(0, 0);
        equal("the percentages as they are now", desk.saved(),
                Float.floatToIntBits(751.0f / 1000.0f));
        desk.pays(1, 0);
        desk.pays(4, 0);
        equal("all is saved", desk.saved(), Float.floatToIntBits(1.0f));
        MemoryDesk little = desk("abcdefghabcd;abcdefghabcd;abcdefghabcd;abcdefghabcd;abcdefg");
        type(little, "hgfedcbahgfe;hgfedcbahgfe;hgfedcbahgfe;hgfedcbahgfe;a");
        little.add();
        little.pays(4, 99);
        equal("one percent", little.saved(), Float.floatToIntBits(104.0f / 10400.0f));
    }

    private static void wordCost() {
        MemoryDesk desk = desk("abc;gh;hhhhh");
        desk.assign(0, 0);
        Check.equal("nothing is delivered", desk.wordCost(), 0.0);
        desk.deliver(0);
        Check.equal("30 / 3", desk.wordCost(), 10.0);
        desk.rate(1, 13);
        finish(desk, 1, 1);
        Check.equal("56 / 5", desk.wordCost(), 56.0 / 5.0);
        desk.revise(0, 1, 1);
        Check.equal("62 / 5", desk.wordCost(), (56.0 - 5.0 + 11.0) / 5.0);
        desk.pays(4, 0);
        finish(desk, 2, 1);
        Check.equal("62 / 10", desk.wordCost(), 6.2);
        MemoryDesk free = desk("abc");
        free.pays(4, 0);
        finish(free, 0, 0);
        Check.equal("0 / 3", free.wordCost(), 0.0);
    }

    // ---- promise 30

    private static void digest() {
        equal("the digest of a new desk", new MemoryDesk().digest(), 849378139959831619L);
        for (int steps = 0; steps < 4; steps++) {
            MemoryDesk desk = deskAfter(steps);
            String buffer = steps < 3 ? "" : "ab;~!";
            equal("digest behind the step " + steps, desk.digest(), Digest.asListed(desk, buffer));
        }
        MemoryDesk desk = deskAfter(3);
        long before = desk.digest();
        desk.clearBuffer();
        equal("the buffer counts", desk.digest() == before ? 1 : 0, 0);
    }

    /** Segments, then a row, then a revision and a dispute, then a buffer. */
    private static MemoryDesk deskAfter(int steps) {
        MemoryDesk desk = desk("abcd;bcda;hh");
        if (steps > 0) {
            finish(desk, 1, 1);
        }
        if (steps > 1) {
            finish(desk, 0, 2);
            desk.revise(0, 3, 2);
            desk.propose(7, 0, 3);
            desk.propose(7, 2, 4);
        }
        if (steps > 2) {
            type(desk, "ab;~!");
        }
        return desk;
    }
}
