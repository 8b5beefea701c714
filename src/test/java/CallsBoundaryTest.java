/**
 * The boundary cases of promises 1 to 15, the calls that change something: each argument at both
 * ends of its range and beyond them, and each refusal that its throws clauses name, in their order.
 */
public final class CallsBoundaryTest extends TestDesks {
    private CallsBoundaryTest() {
    }

    public static void main(String[] args) {
        newDeskHasNothing();
        newDeskRefusesWhatNeedsSomething();
        newDesksShareNothing();
        rateAtTheEdges();
        rateRefusals();
        paysAtTheEdges();
        paysRefusals();
        setAtTheEdges();
        setRefusals();
        assignAtTheEdges();
        assignRefusals();
        deliverAtTheEdges();
        deliverRefusals();
        reviseAtTheEdges();
        reviseRefusals();
        proposeAtTheEdges();
        proposeRefusals();
        ruleAtTheEdges();
        ruleRefusals();
        appendAtTheEdges();
        appendRefusals();
        clearBufferAtTheEdges();
        firstErrorAtTheEdges();
        addAtTheEdges();
        addRefusals();
        changeAtTheEdges();
        changeRefusals();
        undoAtTheEdges();
        undoRefusals();
        refusedCallsSaveNothing();
        Check.end("CallsBoundaryTest");
    }

    private static void refusedByMixed(String what, Class<?> due, Twins.Use use) {
        Twins.refused(what, TestDesks::mixed, due, use);
    }

    // ---- promise 1

    private static void newDeskHasNothing() {
        MemoryDesk desk = new MemoryDesk();
        for (int what = 0; what < 12; what++) {
            equal("count " + what, desk.count(what), 0);
        }
        equal("firstError", desk.firstError(), 0);
        equal("saved", desk.saved(), 0);
        Check.equal("wordCost", desk.wordCost(), 0.0);
        equal("digest", desk.digest(), Digest.asListed(desk, ""));
        equal("clearBuffer", desk.clearBuffer(), 0);
        equal("append", desk.append('a'), 1);
    }

    private static void newDeskRefusesWhatNeedsSomething() {
        Twins.refused("assign", MemoryDesk::new, INDEX, d -> d.assign(0, 0));
        Twins.refused("deliver", MemoryDesk::new, INDEX, d -> d.deliver(0));
        Twins.refused("revise", MemoryDesk::new, INDEX, d -> d.revise(0, 0, 0));
        Twins.refused("change", MemoryDesk::new, INDEX, d -> d.change(0));
        Twins.refused("add", MemoryDesk::new, ARGUMENT, d -> d.add());
        Twins.refused("undo", MemoryDesk::new, STATE, d -> d.undo());
        Twins.refused("rule", MemoryDesk::new, STATE, d -> d.rule(0, 0));
        Twins.refused("segment", MemoryDesk::new, INDEX, d -> d.segment(0, 0));
        Twins.refused("word", MemoryDesk::new, INDEX, d -> d.word(0, 0));
        Twins.refused("remembered", MemoryDesk::new, INDEX, d -> d.remembered(0, 0));
        Twins.refused("near", MemoryDesk::new, INDEX, d -> d.near(0, 0, 0));
        Twins.refused("common", MemoryDesk::new, INDEX, d -> d.common(0, 0, 0));
        Twins.refused("ifPaid", MemoryDesk::new, INDEX, d -> d.ifPaid(0, 0));
        Twins.refused("orderMatters", MemoryDesk::new, INDEX, d -> d.orderMatters(0, 1));
        Twins.refused("orderMatters of one", MemoryDesk::new, INDEX, d -> d.orderMatters(0, 0));
    }

    private static void newDesksShareNothing() {
        long before = new MemoryDesk().digest();
        MemoryDesk used = mixed();
        equal("a desk made later", new MemoryDesk().digest(), before);
        long mixed = used.digest();
        MemoryDesk other = mixed();
        other.rate(0, 1);
        other.clearBuffer();
        change(other, 0, "hhhh");
        equal("a desk made earlier", used.digest(), mixed);
    }

    // ---- promise 2

    private static void rateAtTheEdges() {
        for (int translator = 0; translator < 4; translator++) {
            MemoryDesk desk = new MemoryDesk();
            equal("to the least", desk.rate(translator, 1), 10);
            equal("is there", desk.translator(translator, 0), 1);
            equal("to the greatest", desk.rate(translator, 99), 1);
            equal("is there", desk.translator(translator, 0), 99);
            equal("to the same", desk.rate(translator, 99), 99);
            for (int other = 0; other < 4; other++) {
                equal("the others", desk.translator(other, 0), other == translator ? 99 : 10);
            }
            equal("three states", desk.count(11), 3);
            desk.undo();
            desk.undo();
            equal("undone", desk.translator(translator, 0), 1);
        }
    }

    private static void rateRefusals() {
        for (int wrong : outside(0, 3)) {
            refusedByMixed("rate(" + wrong + ", 5)", INDEX, d -> d.rate(wrong, 5));
            refusedByMixed("rate(" + wrong + ", 0)", INDEX, d -> d.rate(wrong, 0));
            refusedByMixed("rate(" + wrong + ", 100)", INDEX, d -> d.rate(wrong, 100));
        }
        for (int wrong : outside(1, 99)) {
            refusedByMixed("rate(0, " + wrong + ")", ARGUMENT, d -> d.rate(0, wrong));
            refusedByMixed("rate(3, " + wrong + ")", ARGUMENT, d -> d.rate(3, wrong));
        }
    }

    // ---- promise 3

    private static void paysAtTheEdges() {
        int[] percents = {10, 30, 60, 80, 100};
        for (int band = 0; band < 5; band++) {
            MemoryDesk desk = new MemoryDesk();
            equal("to nothing", desk.pays(band, 0), percents[band]);
            equal("is there", desk.band(band, 0), 0);
            equal("to all", desk.pays(band, 100), 0);
            equal("is there", desk.band(band, 0), 100);
            equal("to the same", desk.pays(band, 100), 100);
            for (int other = 0; other < 5; other++) {
                equal("the others", desk.band(other, 0), other == band ? 100 : percents[other]);
            }
            equal("three states", desk.count(11), 3);
            desk.undo();
            desk.undo();
            equal("undone", desk.band(band, 0), 0);
        }
    }

    private static void paysRefusals() {
        for (int wrong : outside(0, 4)) {
            refusedByMixed("pays(" + wrong + ", 5)", INDEX, d -> d.pays(wrong, 5));
            refusedByMixed("pays(" + wrong + ", -1)", INDEX, d -> d.pays(wrong, -1));
            refusedByMixed("pays(" + wrong + ", 101)", INDEX, d -> d.pays(wrong, 101));
        }
        for (int wrong : outside(0, 100)) {
            refusedByMixed("pays(0, " + wrong + ")", ARGUMENT, d -> d.pays(0, wrong));
            refusedByMixed("pays(4, " + wrong + ")", ARGUMENT, d -> d.pays(4, wrong));
        }
    }

    // ---- promise 4

    private static void setAtTheEdges() {
        int[] first = {30, 50};
        int[] highest = {100, 200};
        for (int setting = 0; setting < 2; setting++) {
            MemoryDesk desk = new MemoryDesk();
            equal("to the least", desk.set(setting, 0), first[setting]);
            equal("is there", desk.setting(setting), 0);
            equal("to the greatest", desk.set(setting, highest[setting]), 0);
            equal("is there", desk.setting(setting), highest[setting]);
            equal("to the same", desk.set(setting, highest[setting]), highest[setting]);
            equal("the other one", desk.setting(1 - setting), first[1 - setting]);
            equal("three states", desk.count(11), 3);
            desk.undo();
            desk.undo();
            equal("undone", desk.setting(setting), 0);
        }
    }

    private static void setRefusals() {
        for (int wrong : outside(0, 1)) {
            refusedByMixed("set(" + wrong + ", 5)", INDEX, d -> d.set(wrong, 5));
            refusedByMixed("set(" + wrong + ", -1)", INDEX, d -> d.set(wrong, -1));
            refusedByMixed("set(" + wrong + ", 201)", INDEX, d -> d.set(wrong, 201));
        }
        for (int wrong : outside(0, 100)) {
            refusedByMixed("set(0, " + wrong + ")", ARGUMENT, d -> d.set(0, wrong));
        }
        refusedByMixed("set(0, 200)", ARGUMENT, d -> d.set(0, 200));
        for (int wrong : outside(0, 200)) {
            refusedByMixed("set(1, " + wrong + ")", ARGUMENT, d -> d.set(1, wrong));
        }
    }

    // ---- promise 5

    private static final String TEN = "a;b;c;d;e;f;g;h;a;b";

    private static void assignAtTheEdges() {
        for (int translator = 0; translator < 4; translator++) {
            MemoryDesk desk = desk(TEN);
            equal("the first segment", desk.assign(0, translator), 4);
            equal("the last segment", desk.assign(9, translator), 4);
            equal("whose the first one is", desk.segment(0, 2), translator);
            equal("whose the last one is", desk.segment(9, 2), translator);
            equal("the stage", desk.segment(9, 1), 1);
            equal("the others are open", desk.count(1), 8);
            equal("assigned to the translator", desk.translator(translator, 2), 2);
            equal("no pay yet", desk.segment(9, 7), 0);
            equal("nothing is earned yet", desk.count(8), 0);
            desk.undo();
            equal("undone", desk.segment(9, 1), 0);
            equal("nobody's", desk.segment(9, 2), NONE);
            equal("no band", desk.segment(9, 5), NONE);
            equal("no percentage", desk.segment(9, 6), NONE);
        }
        MemoryDesk alike = desk("abcd;abcd");
        finish(alike, 0, 0);
        equal("band 0", alike.assign(1, 3), 0);
    }

    private static void assignRefusals() {
        for (int wrong : outside(0, 4)) {
            refusedByMixed("assign(" + wrong + ", 0)", INDEX, d -> d.assign(wrong, 0));
            refusedByMixed("assign(" + wrong + ", 4)", INDEX, d -> d.assign(wrong, 4));
        }
        for (int wrong : outside(0, 3)) {
            refusedByMixed("assign(3, " + wrong + ")", INDEX, d -> d.assign(3, wrong));
            refusedByMixed("an assigned one to " + wrong, INDEX, d -> d.assign(2, wrong));
            refusedByMixed("a delivered one to " + wrong, INDEX, d -> d.assign(1, wrong));
        }
        for (int translator = 0; translator < 4; translator++) {
            int to = translator;
            refusedByMixed("a revised one", STATE, d -> d.assign(0, to));
            refusedByMixed("a delivered one", STATE, d -> d.assign(1, to));
            refusedByMixed("an assigned one", STATE, d -> d.assign(2, to));
        }
    }

    // ---- promise 6

    private static void deliverAtTheEdges() {
        MemoryDesk desk = desk(TEN);
        desk.assign(0, 0);
        desk.assign(9, 3);
        equal("the last segment", desk.deliver(9), 10);
        equal("the first segment", desk.deliver(0), 10);
        Check.equal("row 0", wordsOfRow(desk, 0), "b");
        Check.equal("row 1", wordsOfRow(desk, 1), "a");
        equal("words delivered", desk.count(7), 2);
        desk.undo();
        equal("undone: the stage", desk.segment(0, 1), 1);
        equal("undone: the pay", desk.segment(0, 7), 0);
        equal("undone: rows", desk.count(5), 1);
        equal("undone: words delivered", desk.count(7), 1);
        equal("undone: earned", desk.translator(0, 1), 0);
        equal("undone: words of the band", desk.band(4, 1), 1);
        equal("undone: money of the band", desk.band(4, 2), 10);
    }

    private static MemoryDesk mixedWithADispute() {
        MemoryDesk desk = mixed();
        desk.assign(3, 0);
        return desk;
    }

    private static void deliverRefusals() {
        for (int wrong : outside(0, 4)) {
            refusedByMixed("deliver(" + wrong + ")", INDEX, d -> d.deliver(wrong));
        }
        refusedByMixed("a revised one", STATE, d -> d.deliver(0));
        refusedByMixed("a delivered one", STATE, d -> d.deliver(1));
        refusedByMixed("an open one that is disputed", STATE, d -> d.deliver(3));
        Twins.refused("an open one", () -> desk("ab"), STATE, d -> d.deliver(0));
        Twins.refused("a disputed one", CallsBoundaryTest::mixedWithADispute, STATE, d -> d.deliver(3));
        MemoryDesk desk = mixed();
        equal("one that is not disputed", desk.deliver(2), 2 * 10 * 80 / 100);
    }

    // ---- promise 7

    private static void reviseAtTheEdges() {
        MemoryDesk desk = desk(TEN);
        finish(desk, 0, 0);
        finish(desk, 9, 3);
        equal("the first segment by the last translator", desk.revise(0, 3, 0), 10);
        equal("the last segment by the first translator", desk.revise(9, 0, 1), 5);
        equal("fee and own pay", desk.translator(0, 1), 13);
        equal("fee and what is left", desk.translator(3, 1), 8);
        equal("changed by 0", desk.translator(0, 4), 1);
        equal("changed for 3", desk.translator(3, 5), 1);
        equal("revised", desk.count(4), 2);
        desk.undo();
        equal("undone: the stage", desk.segment(9, 1), 2);
        equal("undone: the pay", desk.segment(9, 7), 10);
        equal("undone: who", desk.segment(9, 9), NONE);
        equal("undone: changed words", desk.segment(9, 10), 0);
        equal("undone: the fee", desk.translator(0, 1), 10);
        equal("undone: the loss", desk.translator(3, 1), 13);
        equal("undone: changed by 0", desk.translator(0, 4), 0);
        equal("undone: changed for 3", desk.translator(3, 5), 0);
    }

    private static void reviseRefusals() {
        for (int wrong : outside(0, 4)) {
            refusedByMixed("revise(" + wrong + ", 1, 0)", INDEX, d -> d.revise(wrong, 1, 0));
            refusedByMixed("revise(" + wrong + ", 1, -1)", INDEX, d -> d.revise(wrong, 1, -1));
            refusedByMixed("revise(" + wrong + ", 4, 0)", INDEX, d -> d.revise(wrong, 4, 0));
        }
        for (int wrong : outside(0, 3)) {
            refusedByMixed("revise(1, " + wrong + ", 0)", INDEX, d -> d.revise(1, wrong, 0));
            refusedByMixed("changed is wrong too", INDEX, d -> d.revise(1, wrong, 5));
            refusedByMixed("an open one by " + wrong, INDEX, d -> d.revise(3, wrong, 0));
            refusedByMixed("all is wrong", INDEX, d -> d.revise(3, wrong, -1));
        }
        for (int wrong : outside(0, 4)) {
            refusedByMixed("revise(1, 3, " + wrong + ")", ARGUMENT, d -> d.revise(1, 3, wrong));
            refusedByMixed("the own one changes " + wrong, ARGUMENT, d -> d.revise(1, 0, wrong));
            refusedByMixed("a revised one, changes " + wrong, ARGUMENT, d -> d.revise(0, 3, wrong));
        }
        refusedByMixed("an open one with 3 words of 2", ARGUMENT, d -> d.revise(3, 0, 3));
        refusedByMixed("an assigned one with 3 words of 2", ARGUMENT, d -> d.revise(2, 0, 3));
        refusedByMixed("the own one", STATE, d -> d.revise(1, 0, 0));
        refusedByMixed("the own one, all words", STATE, d -> d.revise(1, 0, 4));
        for (int translator = 0; translator < 4; translator++) {
            int by = translator;
            refusedByMixed("a revised one", STATE, d -> d.revise(0, by, 0));
            refusedByMixed("an assigned one", STATE, d -> d.revise(2, by, 2));
            refusedByMixed("an open one", STATE, d -> d.revise(3, by, 1));
        }
    }

    // ---- promise 8

    private static void proposeAtTheEdges() {
        for (int word : new int[] {0, 7}) {
            for (int translator : new int[] {0, 3}) {
                MemoryDesk desk = new MemoryDesk();
                equal("the least", desk.propose(word, translator, 0), NONE);
                equal("the greatest", desk.propose(word, translator, 9), 0);
                equal("the same", desk.propose(word, translator, 9), 9);
                equal("in place of the one before", desk.translator(translator, 6), 1);
                equal("one proposal", desk.term(word, 6), 1);
                equal("none", desk.propose(word, translator, NONE), 9);
                equal("none again", desk.propose(word, translator, NONE), NONE);
                equal("five states", desk.count(11), 5);
                equal("no proposal", desk.term(word, 6), 0);
                desk.undo();
                desk.undo();
                equal("undone", desk.term(word, translator), 9);
                equal("other words", desk.term(3, translator), NONE);
                equal("other translators", desk.term(word, 1), NONE);
            }
        }
        MemoryDesk all = new MemoryDesk();
        for (int word = 0; word < 8; word++) {
            all.propose(word, 2, word);
        }
        equal("all words", all.translator(2, 6), 8);
    }

    private static void proposeRefusals() {
        for (int wrong : outside(0, 7)) {
            refusedByMixed("propose(" + wrong + ", 0, 1)", INDEX, d -> d.propose(wrong, 0, 1));
            refusedByMixed("propose(" + wrong + ", 0, 10)", INDEX, d -> d.propose(wrong, 0, 10));
            refusedByMixed("propose(" + wrong + ", 4, -2)", INDEX, d -> d.propose(wrong, 4, -2));
        }
        for (int wrong : outside(0, 3)) {
            refusedByMixed("propose(0, " + wrong + ", 1)", INDEX, d -> d.propose(0, wrong, 1));
            refusedByMixed("propose(0, " + wrong + ", -2)", INDEX, d -> d.propose(0, wrong, -2));
            refusedByMixed("a ruled word by " + wrong, INDEX, d -> d.propose(7, wrong, 1));
            refusedByMixed("all is wrong", INDEX, d -> d.propose(7, wrong, 10));
        }
        for (int wrong : outside(NONE, 9)) {
            refusedByMixed("propose(0, 0, " + wrong + ")", ARGUMENT, d -> d.propose(0, 0, wrong));
            refusedByMixed("a ruled word, " + wrong, ARGUMENT, d -> d.propose(7, 0, wrong));
        }
        for (int proposal = NONE; proposal <= 9; proposal++) {
            int made = proposal;
            refusedByMixed("a ruled word, " + made, STATE, d -> d.propose(7, 1, made));
            refusedByMixed("a ruled word, the own one, " + made, STATE, d -> d.propose(7, 3, made));
        }
    }

    // ---- promise 9

    private static void ruleAtTheEdges() {
        for (int word : new int[] {0, 7}) {
            for (int proposal : new int[] {0, 9}) {
                for (int others = 0; others <= 3; others++) {
                    MemoryDesk desk = new MemoryDesk();
                    desk.propose(word, 3, proposal);
                    for (int translator = 0; translator < others; translator++) {
                        desk.propose(word, translator, 4);
                    }
                    equal("how many have another one", desk.rule(word, proposal), others);
                    equal("the ruling", desk.term(word, 4), proposal);
                    equal("the own one stays", desk.term(word, 3), proposal);
                    equal("ruled words", desk.count(10), 1);
                    equal("saved", desk.count(11), others + 2);
                    desk.undo();
                    equal("undone", desk.term(word, 4), NONE);
                }
            }
        }
        MemoryDesk all = new MemoryDesk();
        for (int translator = 0; translator < 4; translator++) {
            all.propose(2, translator, 5);
        }
        equal("all have it", all.rule(2, 5), 0);
    }

    private static void ruleRefusals() {
        for (int wrong : outside(0, 7)) {
            refusedByMixed("rule(" + wrong + ", 1)", INDEX, d -> d.rule(wrong, 1));
            refusedByMixed("rule(" + wrong + ", 10)", INDEX, d -> d.rule(wrong, 10));
            refusedByMixed("rule(" + wrong + ", NONE)", INDEX, d -> d.rule(wrong, NONE));
        }
        for (int wrong : outside(0, 9)) {
            refusedByMixed("no proposals, " + wrong, ARGUMENT, d -> d.rule(0, wrong));
            refusedByMixed("a disputed word, " + wrong, ARGUMENT, d -> d.rule(6, wrong));
            refusedByMixed("a ruled word, " + wrong, ARGUMENT, d -> d.rule(7, wrong));
        }
        for (int proposal = 0; proposal <= 9; proposal++) {
            int ruling = proposal;
            refusedByMixed("a ruled word, " + ruling, STATE, d -> d.rule(7, ruling));
            refusedByMixed("no proposals, " + ruling, STATE, d -> d.rule(0, ruling));
            if (proposal != 1 && proposal != 2) {
                refusedByMixed("what nobody has, " + ruling, STATE, d -> d.rule(6, ruling));
            }
        }
        equal("what somebody has", mixed().rule(6, 2), 1);
    }

    // ---- promise 10

    private static final String SIXTY = "abcdefghabcd;abcdefghabcd;abcdefghabcd;abcdefghabcd;hgfedcba";

    private static MemoryDesk mixedWithAFullBuffer() {
        MemoryDesk desk = mixed();
        desk.clearBuffer();
        type(desk, SIXTY);
        return desk;
    }

    private static void appendAtTheEdges() {
        for (int code : new int[] {33, 126}) {
            MemoryDesk desk = new MemoryDesk();
            for (int length = 1; length <= 60; length++) {
                equal("append(" + code + ")", desk.append(code), length);
            }
            equal("nothing is saved", desk.count(11), 0);
            equal("each code is kept", desk.digest(),
                    Digest.asListed(desk, String.valueOf((char) code).repeat(60)));
        }
        MemoryDesk desk = new MemoryDesk();
        StringBuilder all = new StringBuilder();
        for (int code = 33; code < 93; code++) {
            desk.append(code);
            all.append((char) code);
        }
        equal("in their order", desk.digest(), Digest.asListed(desk, all.toString()));
    }

    private static void appendRefusals() {
        for (int wrong : outside(33, 126)) {
            refusedByMixed("append(" + wrong + ")", ARGUMENT, d -> d.append(wrong));
            Twins.refused("to a full buffer: append(" + wrong + ")",
                    CallsBoundaryTest::mixedWithAFullBuffer, ARGUMENT, d -> d.append(wrong));
        }
        for (int wrong : new int[] {0, 10, 13, 'a' + 256, 'a' + 65536, 'a' - 256}) {
            refusedByMixed("append(" + wrong + ")", ARGUMENT, d -> d.append(wrong));
        }
        for (int code : new int[] {33, ';', 'a', 126}) {
            Twins.refused("to a full buffer: append(" + code + ")",
                    CallsBoundaryTest::mixedWithAFullBuffer, STATE, d -> d.append(code));
        }
    }

    // ---- promises 11 and 12

    private static void clearBufferAtTheEdges() {
        MemoryDesk desk = mixed();
        long states = desk.count(11);
        equal("two characters", desk.clearBuffer(), 2);
        long cleared = desk.digest();
        equal("none", desk.clearBuffer(), 0);
        equal("nothing more is changed", desk.digest(), cleared);
        equal("nothing is saved", desk.count(11), states);
        type(desk, SIXTY);
        equal("sixty", desk.clearBuffer(), 60);
        equal("all are gone", desk.digest(), cleared);
        equal("no error", desk.firstError(), 0);
    }

    private static void firstErrorAtTheEdges() {
        for (int errors = 0; errors < 60; errors++) {
            MemoryDesk desk = new MemoryDesk();
            type(desk, SIXTY.substring(0, errors) + "?" + SIXTY.substring(errors + 1));
            equal("an error at " + errors, desk.firstError(), errors);
        }
        for (int length = 0; length <= 60; length++) {
            MemoryDesk desk = new MemoryDesk();
            type(desk, SIXTY.substring(0, length));
            equal("no error in " + length, desk.firstError(), length);
        }
        MemoryDesk desk = mixedWithAFullBuffer();
        long before = desk.digest();
        desk.firstError();
        equal("nothing is changed", desk.digest(), before);
    }

    // ---- promise 13

    private static MemoryDesk deskAnd(String segments, String typed) {
        MemoryDesk desk = desk(segments);
        type(desk, typed);
        return desk;
    }

    private static void addAtTheEdges() {
        MemoryDesk one = new MemoryDesk();
        one.append('a');
        equal("one segment of one word", one.add(), 1);
        equal("the buffer is cleared", one.clearBuffer(), 0);
        equal("saved as one call", one.count(11), 1);
        MemoryDesk ten = deskAnd("h", "a;b;c;d;e;f;g;h;abcdefghabcd");
        equal("the tenth one", ten.add(), 10);
        equal("saved as one call", ten.count(11), 2);
        Check.equal("the last one", source(ten, 9), "abcdefghabcd");
        equal("all open", ten.count(1), 10);
        equal("undo takes all nine", ten.undo(), 1);
        equal("one is left", ten.count(0), 1);
        MemoryDesk beside = mixed();
        equal("beside others", beside.add(), 6);
        Check.equal("open", properties(beside, 5), "[2, 0, -1, 66, 1, -1, -1, 0, 0, -1, 0, 0]");
        Check.equal("the others stay", properties(beside, 2), "[2, 1, 3, 66, 1, 3, 80, 0, 0, -1, 0, 0]");
    }

    private static void addRefusals() {
        for (String text : new String[] {"", ";", "a;", ";a", "a;;a", "i", "a;i", "ab!", "abcdefghabcda",
            "a;abcdefghabcda", "A"}) {
            Twins.refused("add of " + text, () -> deskAnd("ab;cd", text), ARGUMENT, d -> d.add());
            Twins.refused("to ten: " + text, () -> deskAnd(TEN, text), ARGUMENT, d -> d.add());
        }
        Twins.refused("eleven", () -> deskAnd("h", TEN), STATE, d -> d.add());
        Twins.refused("eleven and a semicolon", () -> deskAnd("h", TEN + ";"), ARGUMENT, d -> d.add());
        Twins.refused("eleven, the last one too long", () -> deskAnd("h", TEN + "bcdefghabcda"), ARGUMENT,
                d -> d.add());
        Twins.refused("one to ten", () -> deskAnd(TEN, "h"), STATE, d -> d.add());
    }

    // ---- promise 14

    private static void changeAtTheEdges() {
        MemoryDesk desk = desk(TEN);
        equal("the first one", change(desk, 0, "abcdefghabcd"), 0);
        equal("the last one", change(desk, 9, "h"), 0);
        equal("the buffer is cleared", desk.clearBuffer(), 0);
        Check.equal("the first one", source(desk, 0), "abcdefghabcd");
        Check.equal("the last one", source(desk, 9), "h...........");
        equal("the others stay", desk.word(8, 0), 0);
        equal("three states", desk.count(11), 3);
        desk.undo();
        desk.undo();
        Check.equal("undone", wordsOf(desk, 0) + wordsOf(desk, 9), "ab");
        MemoryDesk mixed = mixed();
        equal("a delivered one", mixed.change(1), 1);
        Check.equal("by the last row of two", properties(mixed, 1), "[2, 1, 0, 66, 1, 3, 80, 0, 24, -1, 0, 0]");
        mixed.undo();
        Check.equal("undone", properties(mixed, 1), "[4, 2, 0, 100, 1, 2, 60, 24, 0, -1, 0, 0]");
        type(mixed, "ab");
        equal("a revised one", mixed.change(0), 1);
        Check.equal("no reviser", properties(mixed, 0), "[2, 1, 1, 66, 1, 3, 80, 0, 34, -1, 0, 0]");
        mixed.undo();
        Check.equal("undone", properties(mixed, 0), "[4, 3, 1, 100, 0, 4, 100, 34, 0, 2, 1, 0]");
    }

    private static void changeRefusals() {
        for (int wrong : outside(0, 4)) {
            refusedByMixed("change(" + wrong + ")", INDEX, d -> d.change(wrong));
            Twins.refused("without a text: change(" + wrong + ")", () -> {
                MemoryDesk desk = mixed();
                desk.clearBuffer();
                return desk;
            }, INDEX, d -> d.change(wrong));
        }
        for (String text : new String[] {"", ";", "a;", ";a", "a;b", "a;b;c", "i", "ab!", "abcdefghabcda",
            "abcdefghabcd;a", "A"}) {
            for (int segment : new int[] {0, 2, 3}) {
                Twins.refused("change(" + segment + ") to " + text, () -> {
                    MemoryDesk desk = mixed();
                    desk.clearBuffer();
                    type(desk, text);
                    return desk;
                }, ARGUMENT, d -> d.change(segment));
            }
        }
    }

    // ---- promise 15

    private static void undoAtTheEdges() {
        MemoryDesk desk = mixed();
        for (int left = 5; left >= 0; left--) {
            equal("undo", desk.undo(), left);
            equal("states", desk.count(11), left);
        }
        equal("the buffer stays", desk.clearBuffer(), 2);
        Check.equal("what is left: segment 0", properties(desk, 0), "[4, 2, 1, 100, 0, 4, 100, 40, 0, -1, 0, 0]");
        equal("the rate is from before the six", desk.translator(0, 0), 40);
        equal("a proposal is from before the six", desk.term(6, 0), 1);
        equal("the other one is not", desk.term(6, 1), NONE);
    }

    private static void undoRefusals() {
        Twins.refused("a new desk", MemoryDesk::new, STATE, d -> d.undo());
        Twins.refused("only a buffer", () -> {
            MemoryDesk desk = new MemoryDesk();
            type(desk, "ab;cd");
            desk.clearBuffer();
            type(desk, "a");
            return desk;
        }, STATE, d -> d.undo());
        Twins.refused("all is undone", () -> {
            MemoryDesk desk = mixed();
            for (int i = 0; i < 6; i++) {
                desk.undo();
            }
            return desk;
        }, STATE, d -> d.undo());
    }

    /** More refused calls than there can be states push none of these out. */
    private static void refusedCallsSaveNothing() {
        MemoryDesk desk = desk("ab");
        desk.rate(0, 20);
        for (int i = 0; i < 8; i++) {
            Check.thrownBy(() -> desk.rate(4, 20));
            Check.thrownBy(() -> desk.rate(0, 0));
            Check.thrownBy(() -> desk.pays(0, 101));
            Check.thrownBy(() -> desk.set(0, 101));
            Check.thrownBy(() -> desk.assign(1, 0));
            Check.thrownBy(() -> desk.deliver(0));
            Check.thrownBy(() -> desk.revise(0, 1, 0));
            Check.thrownBy(() -> desk.propose(0, 0, 10));
            Check.thrownBy(() -> desk.rule(0, 0));
            Check.thrownBy(() -> desk.append(32));
            Check.thrownBy(() -> desk.add());
            Check.thrownBy(() -> desk.change(0));
            equal("two states", desk.count(11), 2);
        }
        equal("undo", desk.undo(), 1);
        equal("of the rate", desk.translator(0, 0), 10);
        equal("undo", desk.undo(), 0);
        equal("of the segment", desk.count(0), 0);
    }
}
