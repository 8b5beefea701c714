/**
 * The boundary cases of promises 16 to 30, the calls that only look: each argument at both ends of
 * its range and beyond them, each refusal in the order of its throws clause, and what the answers
 * are with nothing, with one and with all that there can be.
 */
public final class LooksBoundaryTest extends TestDesks {
    private static final String TEN = "a;b;c;d;e;f;g;h;a;b";
    private static final String TWELVE = "abcdefghabcd";

    private LooksBoundaryTest() {
    }

    public static void main(String[] args) {
        segmentAtEachStage();
        segmentAtTheEdges();
        segmentRefusals();
        wordAtTheEdges();
        wordRefusals();
        rememberedAtTheEdges();
        rememberedRefusals();
        translatorAtTheEdges();
        translatorCountsAgain();
        translatorRefusals();
        termAtTheEdges();
        termRefusals();
        bandAtTheEdges();
        bandRefusals();
        countAtTheEdges();
        countRefusals();
        settingAtTheEdges();
        settingRefusals();
        nearAtTheEdges();
        nearRefusals();
        commonAtTheEdges();
        commonIsTheFirstOfSeveral();
        commonRefusals();
        ifPaidAtTheEdges();
        ifPaidByStage();
        ifPaidRefusals();
        orderMattersAtTheEdges();
        orderMattersForEveryMatch();
        orderMattersWithAFullMemory();
        orderMattersRefusals();
        savedAtTheEdges();
        savedBitByBit();
        wordCostAtTheEdges();
        digestAtTheEdges();
        digestTellsStatesApart();
        looksChangeNothing();
        Check.end("LooksBoundaryTest");
    }

    private static void refusedByMixed(String what, Class<?> due, Twins.Use use) {
        Twins.refused(what, TestDesks::mixed, due, use);
    }

    private static int bits(float value) {
        return Float.floatToIntBits(value);
    }

    // ---- promise 16

    private static void segmentAtEachStage() {
        MemoryDesk desk = mixed();
        Check.equal("revised", properties(desk, 0), "[4, 3, 1, 100, 0, 4, 100, 34, 0, 2, 1, 0]");
        Check.equal("delivered", properties(desk, 1), "[4, 2, 0, 100, 1, 2, 60, 24, 0, -1, 0, 0]");
        Check.equal("assigned", properties(desk, 2), "[2, 1, 3, 66, 1, 3, 80, 0, 0, -1, 0, 0]");
        Check.equal("open, disputed and ruled", properties(desk, 3), "[2, 0, -1, 0, 1, -1, -1, 0, 0, -1, 0, 1]");
        Check.equal("open, disputed", properties(desk, 4), "[3, 0, -1, 57, 0, -1, -1, 0, 0, -1, 0, 1]");
    }

    private static void segmentAtTheEdges() {
        MemoryDesk desk = desk(TEN.substring(0, 18) + TWELVE);
        equal("one word", desk.segment(0, 0), 1);
        equal("twelve words", desk.segment(9, 0), 12);
        equal("not disputed", desk.segment(9, 11), 0);
        desk.propose(3, 0, 0);
        equal("one proposal", desk.segment(9, 11), 0);
        desk.propose(3, 3, 9);
        equal("disputed at its last place", desk.segment(9, 11), 1);
        equal("another one", desk.segment(0, 11), 0);
        equal("the word alone", desk.segment(3, 11), 1);
        desk.rule(3, 9);
        equal("ruled", desk.segment(9, 11), 0);
        MemoryDesk free = desk("ab");
        free.pays(4, 0);
        finish(free, 0, 0);
        equal("a fixed percentage of 0", free.segment(0, 6), 0);
        equal("a pay of 0", free.segment(0, 7), 0);
        free.revise(0, 3, 2);
        equal("who revised it", free.segment(0, 9), 3);
        equal("all words", free.segment(0, 10), 2);
    }

    private static void segmentRefusals() {
        for (int wrong : outside(0, 4)) {
            refusedByMixed("segment(" + wrong + ", 0)", INDEX, d -> d.segment(wrong, 0));
            refusedByMixed("segment(" + wrong + ", 11)", INDEX, d -> d.segment(wrong, 11));
            refusedByMixed("segment(" + wrong + ", 12)", INDEX, d -> d.segment(wrong, 12));
            refusedByMixed("segment(" + wrong + ", -1)", INDEX, d -> d.segment(wrong, -1));
        }
        for (int wrong : outside(0, 11)) {
            refusedByMixed("segment(0, " + wrong + ")", ARGUMENT, d -> d.segment(0, wrong));
            refusedByMixed("segment(4, " + wrong + ")", ARGUMENT, d -> d.segment(4, wrong));
        }
    }

    // ---- promises 17 and 18

    private static void wordAtTheEdges() {
        for (int words = 1; words <= 12; words++) {
            MemoryDesk desk = desk("a;" + "h".repeat(words));
            for (int place = 0; place <= 11; place++) {
                equal("place " + place + " of " + words, desk.word(1, place), place < words ? 7 : NONE);
            }
        }
        MemoryDesk shorter = desk(TWELVE);
        change(shorter, 0, "b");
        Check.equal("a shorter one leaves nothing behind it", source(shorter, 0), "b...........");
        shorter.undo();
        Check.equal("undone", source(shorter, 0), TWELVE);
    }

    private static void wordRefusals() {
        for (int wrong : outside(0, 4)) {
            refusedByMixed("word(" + wrong + ", 0)", INDEX, d -> d.word(wrong, 0));
            refusedByMixed("word(" + wrong + ", 11)", INDEX, d -> d.word(wrong, 11));
            refusedByMixed("word(" + wrong + ", 12)", INDEX, d -> d.word(wrong, 12));
        }
        for (int wrong : outside(0, 11)) {
            refusedByMixed("word(0, " + wrong + ")", ARGUMENT, d -> d.word(0, wrong));
            refusedByMixed("word(4, " + wrong + ")", ARGUMENT, d -> d.word(4, wrong));
        }
    }

    private static void rememberedAtTheEdges() {
        for (int words = 1; words <= 12; words++) {
            MemoryDesk desk = desk("h".repeat(words));
            finish(desk, 0, 0);
            for (int place = 0; place <= 11; place++) {
                equal("place " + place + " of " + words, desk.remembered(0, place), place < words ? 7 : NONE);
            }
        }
        MemoryDesk full = smallRows(30, "");
        Check.equal("row 29", rowOfMemory(full, 29), "df..........");
        equal("row 0", full.remembered(0, 1), 0);
    }

    private static void rememberedRefusals() {
        for (int wrong : outside(0, 1)) {
            refusedByMixed("remembered(" + wrong + ", 0)", INDEX, d -> d.remembered(wrong, 0));
            refusedByMixed("remembered(" + wrong + ", 12)", INDEX, d -> d.remembered(wrong, 12));
        }
        for (int wrong : outside(0, 11)) {
            refusedByMixed("remembered(0, " + wrong + ")", ARGUMENT, d -> d.remembered(0, wrong));
            refusedByMixed("remembered(1, " + wrong + ")", ARGUMENT, d -> d.remembered(1, wrong));
        }
        for (int wrong : outside(0, 29)) {
            MemoryDesk full = smallRows(31, "");
            refused("a full memory: remembered(" + wrong + ", 0)", full, INDEX, () -> full.remembered(wrong, 0));
        }
        MemoryDesk undone = desk("ab");
        finish(undone, 0, 0);
        undone.undo();
        refused("a row that was undone", undone, INDEX, () -> undone.remembered(0, 0));
    }

    // ---- promise 19

    private static void translatorAtTheEdges() {
        MemoryDesk desk = mixed();
        Check.equal("0", propertiesOfTranslator(desk, 0), "[40, 24, 0, 4, 0, 0, 1]");
        Check.equal("1", propertiesOfTranslator(desk, 1), "[10, 34, 0, 4, 0, 1, 1]");
        Check.equal("2", propertiesOfTranslator(desk, 2), "[10, 12, 0, 0, 1, 0, 0]");
        Check.equal("3", propertiesOfTranslator(desk, 3), "[10, 0, 1, 0, 0, 0, 1]");
        MemoryDesk all = desk(TEN);
        for (int segment = 0; segment < 10; segment++) {
            all.assign(segment, 3);
            equal("assigned now", all.translator(3, 2), segment + 1);
        }
        for (int segment = 0; segment < 10; segment++) {
            all.deliver(segment);
            equal("assigned now", all.translator(3, 2), 9 - segment);
            equal("words delivered", all.translator(3, 3), segment + 1);
        }
        for (int segment = 0; segment < 10; segment++) {
            all.revise(segment, 2, segment % 2);
        }
        equal("changed by 2", all.translator(2, 4), 5);
        equal("changed for 3", all.translator(3, 5), 5);
        equal("not the other way round", all.translator(2, 5) + all.translator(3, 4), 0);
        for (int word = 0; word < 8; word++) {
            all.propose(word, 1, 9);
        }
        equal("proposals for all words", all.translator(1, 6), 8);
    }

    /** "again, if they are delivered again" */
    private static void translatorCountsAgain() {
        MemoryDesk desk = desk("abc");
        finish(desk, 0, 2);
        desk.revise(0, 1, 3);
        change(desk, 0, TWELVE);
        equal("not yet", desk.translator(2, 3), 3);
        desk.deliver(0);
        equal("words delivered again", desk.translator(2, 3), 15);
        desk.revise(0, 1, 12);
        equal("words changed again", desk.translator(1, 4), 15);
        equal("words changed by others again", desk.translator(2, 5), 15);
        equal("count 7", desk.count(7), 15);
        equal("words of all segments", desk.count(6), 12);
    }

    private static void translatorRefusals() {
        for (int wrong : outside(0, 3)) {
            refusedByMixed("translator(" + wrong + ", 0)", INDEX, d -> d.translator(wrong, 0));
            refusedByMixed("translator(" + wrong + ", 6)", INDEX, d -> d.translator(wrong, 6));
            refusedByMixed("translator(" + wrong + ", 7)", INDEX, d -> d.translator(wrong, 7));
        }
        for (int wrong : outside(0, 6)) {
            refusedByMixed("translator(0, " + wrong + ")", ARGUMENT, d -> d.translator(0, wrong));
            refusedByMixed("translator(3, " + wrong + ")", ARGUMENT, d -> d.translator(3, wrong));
        }
    }

    // ---- promise 20

    private static void termAtTheEdges() {
        MemoryDesk desk = mixed();
        Check.equal("a", propertiesOfTerm(desk, 0), "[-1, -1, -1, -1, -1, 0, 0, 3]");
        Check.equal("f is nowhere", propertiesOfTerm(desk, 5), "[-1, -1, -1, -1, -1, 0, 0, 0]");
        Check.equal("g is disputed", propertiesOfTerm(desk, 6), "[1, 2, -1, -1, -1, 1, 2, 2]");
        Check.equal("h is ruled", propertiesOfTerm(desk, 7), "[-1, -1, -1, 0, 0, 0, 1, 1]");
        MemoryDesk often = desk("hhhhhhhhhhhh;hhhhhhhhhhhh;hhhhhhhhhhhh;hhhhhhhhhhhh");
        equal("in all places", often.term(7, 7), 48);
        type(often, "hhhhhhhhhhhh;hhhhhhhhhhhh;hhhhhhhhhhhh;hhhhhhhhhhhh");
        often.add();
        type(often, "hhhhhhhhhhhh;hhhhhhhhhhhh");
        often.add();
        equal("in all places that there are", often.term(7, 7), 120);
        equal("words", often.count(6), 120);
        change(often, 9, "a");
        equal("the old source does not count", often.term(7, 7), 108);
        equal("the new one does", often.term(0, 7), 1);
        finish(often, 0, 0);
        equal("rows of the memory do not count", often.term(7, 7), 108);
    }

    private static void termRefusals() {
        for (int wrong : outside(0, 7)) {
            refusedByMixed("term(" + wrong + ", 0)", INDEX, d -> d.term(wrong, 0));
            refusedByMixed("term(" + wrong + ", 7)", INDEX, d -> d.term(wrong, 7));
            refusedByMixed("term(" + wrong + ", 8)", INDEX, d -> d.term(wrong, 8));
            refusedByMixed("term(0, " + wrong + ")", ARGUMENT, d -> d.term(0, wrong));
            refusedByMixed("term(7, " + wrong + ")", ARGUMENT, d -> d.term(7, wrong));
        }
    }

    // ---- promise 21

    private static void bandAtTheEdges() {
        MemoryDesk desk = desk("abcdefgh;abcdefgh;abcdefg;abcdefgg;abcd;hhhh");
        for (int segment = 0; segment < 6; segment++) {
            finish(desk, segment, 0);
        }
        Check.equal("0", propertiesOfBand(desk, 0), "[10, 8, 8]");
        Check.equal("1", propertiesOfBand(desk, 1), "[30, 15, 45]");
        Check.equal("2", propertiesOfBand(desk, 2), "[60, 4, 24]");
        Check.equal("3", propertiesOfBand(desk, 3), "[80, 0, 0]");
        Check.equal("4", propertiesOfBand(desk, 4), "[100, 12, 120]");
        desk.revise(0, 1, 8);
        Check.equal("revisions do not count", propertiesOfBand(desk, 4), "[100, 12, 120]");
        change(desk, 5, "hhhg");
        Check.equal("changes do not count", propertiesOfBand(desk, 4), "[100, 12, 120]");
        desk.deliver(5);
        Check.equal("delivered again, in another band", propertiesOfBand(desk, 2), "[60, 8, 48]");
        desk.undo();
        Check.equal("undone", propertiesOfBand(desk, 2), "[60, 4, 24]");
    }

    private static void bandRefusals() {
        for (int wrong : outside(0, 4)) {
            refusedByMixed("band(" + wrong + ", 0)", INDEX, d -> d.band(wrong, 0));
            refusedByMixed("band(" + wrong + ", 2)", INDEX, d -> d.band(wrong, 2));
            refusedByMixed("band(" + wrong + ", 3)", INDEX, d -> d.band(wrong, 3));
        }
        for (int wrong : outside(0, 2)) {
            refusedByMixed("band(0, " + wrong + ")", ARGUMENT, d -> d.band(0, wrong));
            refusedByMixed("band(4, " + wrong + ")", ARGUMENT, d -> d.band(4, wrong));
        }
    }

    // ---- promises 22 and 23

    private static void countAtTheEdges() {
        Check.equal("of everything", counts(mixed()), "[5, 2, 1, 1, 1, 2, 15, 8, 70, 1, 1, 6]");
        MemoryDesk desk = desk(TEN);
        Check.equal("ten open", counts(desk), "[10, 10, 0, 0, 0, 0, 10, 0, 0, 0, 0, 1]");
        for (int segment = 0; segment < 10; segment++) {
            desk.assign(segment, 0);
        }
        Check.equal("ten assigned", counts(desk), "[10, 0, 10, 0, 0, 0, 10, 0, 0, 0, 0, 6]");
        for (int segment = 0; segment < 10; segment++) {
            desk.deliver(segment);
        }
        Check.equal("ten delivered", counts(desk), "[10, 0, 0, 10, 0, 10, 10, 10, 100, 0, 0, 6]");
        desk.set(0, 0);
        for (int segment = 0; segment < 10; segment++) {
            desk.revise(segment, 1, 1);
        }
        Check.equal("ten revised", counts(desk), "[10, 0, 0, 0, 10, 10, 10, 10, 50, 0, 0, 6]");
        for (int word = 0; word < 8; word++) {
            desk.propose(word, 0, 0);
            desk.propose(word, 3, 9);
        }
        equal("all words are disputed", desk.count(9), 8);
        for (int word = 0; word < 8; word++) {
            desk.rule(word, word % 2 * 9);
        }
        equal("none is disputed", desk.count(9), 0);
        equal("all are ruled", desk.count(10), 8);
        equal("30 rows at most", smallRows(33, "").count(5), 30);
    }

    private static void countRefusals() {
        for (int wrong : outside(0, 11)) {
            refusedByMixed("count(" + wrong + ")", ARGUMENT, d -> d.count(wrong));
        }
    }

    private static void settingAtTheEdges() {
        MemoryDesk desk = new MemoryDesk();
        equal("0", desk.setting(0), 30);
        equal("1", desk.setting(1), 50);
        desk.set(0, 100);
        equal("0 is changed", desk.setting(0), 100);
        equal("1 is not", desk.setting(1), 50);
        desk.set(1, 200);
        equal("1 is changed", desk.setting(1), 200);
        equal("0 is not", desk.setting(0), 100);
    }

    private static void settingRefusals() {
        for (int wrong : outside(0, 1)) {
            refusedByMixed("setting(" + wrong + ")", INDEX, d -> d.setting(wrong));
        }
    }

    // ---- promise 24

    private static void nearAtTheEdges() {
        MemoryDesk desk = desk(TWELVE + ";h;hgfedcbahgfe;a");
        finish(desk, 0, 0);
        finish(desk, 1, 0);
        equal("alike, twelve words", desk.near(0, 0, 0), 100);
        equal("length", desk.near(0, 0, 1), 12);
        equal("float", desk.near(0, 0, 2), bits(1.0f));
        equal("alike, one word", desk.near(1, 1, 0), 100);
        equal("length", desk.near(1, 1, 1), 1);
        equal("float", desk.near(1, 1, 2), bits(1.0f));
        equal("one of twelve and one", desk.near(1, 0, 0), 15);
        equal("length", desk.near(1, 0, 1), 1);
        equal("float", desk.near(1, 0, 2), bits(2.0f / 13.0f));
        equal("nothing in common", desk.near(3, 1, 0), 0);
        equal("length", desk.near(3, 1, 1), 0);
        equal("float", desk.near(3, 1, 2), bits(0.0f));
        MemoryDesk full = smallRows(30, ";df");
        equal("the last row of 30", full.near(1, 29, 0), 100);
        equal("the first row of 30", full.near(1, 0, 0), 0);
    }

    private static void nearRefusals() {
        for (int wrong : outside(0, 4)) {
            refusedByMixed("near(" + wrong + ", 0, 0)", INDEX, d -> d.near(wrong, 0, 0));
            refusedByMixed("near(" + wrong + ", 2, 0)", INDEX, d -> d.near(wrong, 2, 0));
            refusedByMixed("near(" + wrong + ", 0, 3)", INDEX, d -> d.near(wrong, 0, 3));
        }
        for (int wrong : outside(0, 1)) {
            refusedByMixed("near(0, " + wrong + ", 0)", INDEX, d -> d.near(0, wrong, 0));
            refusedByMixed("near(4, " + wrong + ", 2)", INDEX, d -> d.near(4, wrong, 2));
            refusedByMixed("near(0, " + wrong + ", 3)", INDEX, d -> d.near(0, wrong, 3));
            refusedByMixed("near(5, " + wrong + ", -1)", INDEX, d -> d.near(5, wrong, -1));
        }
        for (int wrong : outside(0, 2)) {
            refusedByMixed("near(0, 0, " + wrong + ")", ARGUMENT, d -> d.near(0, 0, wrong));
            refusedByMixed("near(4, 1, " + wrong + ")", ARGUMENT, d -> d.near(4, 1, wrong));
        }
        Twins.refused("no rows", () -> desk("ab"), INDEX, d -> d.near(0, 0, 0));
        Twins.refused("no rows, what is wrong", () -> desk("ab"), INDEX, d -> d.near(0, 0, 3));
    }

    // ---- promise 25

    private static void commonAtTheEdges() {
        MemoryDesk desk = desk(TWELVE + ";" + TWELVE + ";h;a;abcdefghabc");
        Check.equal("twelve", commonRow(desk, 0, 1), TWELVE);
        Check.equal("with itself", commonRow(desk, 0, 0), TWELVE);
        Check.equal("eleven", commonRow(desk, 0, 4), "abcdefghabc.");
        Check.equal("one with itself", commonRow(desk, 2, 2), "h...........");
        Check.equal("one", commonRow(desk, 0, 2), "h...........");
        Check.equal("none", commonRow(desk, 2, 3), "............");
        desk.assign(0, 0);
        desk.deliver(0);
        Check.equal("the stages do not matter", commonRow(desk, 0, 1), TWELVE);
        change(desk, 1, "h");
        Check.equal("the source as it is now", commonRow(desk, 1, 2), "h...........");
        MemoryDesk ten = desk(TEN);
        equal("the last segment and the first one", ten.common(9, 0, 0), NONE);
        equal("the last one and another one", ten.common(9, 1, 0), 1);
    }

    private static void commonOf(String one, String other, String due) {
        MemoryDesk desk = desk(one + ";" + other);
        Check.equal(one + " and " + other, wordsInCommon(desk, 0, 1), due);
        Check.equal(other + " and " + one, wordsInCommon(desk, 1, 0), due);
    }

    /** "the first one, by the word at the place 0, then at the place 1, and so on" */
    private static void commonIsTheFirstOfSeveral() {
        commonOf("ab", "ba", "a");
        commonOf("hgfedcba", "abcdefgh", "a");
        commonOf("dcba", "dbca", "dba");
        commonOf("abac", "acab", "aa");
        commonOf("cbad", "bcda", "ba");
        commonOf("hahbhchd", "ahbhchdh", "ahbhchd");
        commonOf("bdcaba", "abcbdab", "bcab");
        commonOf("ghab", "abgh", "ab");
        commonOf("habg", "hgab", "hab");
        commonOf("aabbccddeeff", "ffeeddccbbaa", "aa");
        commonOf("cacbcacbcacb", "acbcacbcacbc", "acbcacbcacb");
        commonOf("ba", "ab", "a");
        commonOf("efgabc", "abcefg", "abc");
        commonOf("bacbac", "abcabc", "abac");
    }

    private static void commonRefusals() {
        for (int wrong : outside(0, 4)) {
            refusedByMixed("common(" + wrong + ", 0, 0)", INDEX, d -> d.common(wrong, 0, 0));
            refusedByMixed("common(0, " + wrong + ", 0)", INDEX, d -> d.common(0, wrong, 0));
            refusedByMixed("common twice " + wrong, INDEX, d -> d.common(wrong, wrong, 0));
            refusedByMixed("common(" + wrong + ", 0, 12)", INDEX, d -> d.common(wrong, 0, 12));
            refusedByMixed("common(0, " + wrong + ", 12)", INDEX, d -> d.common(0, wrong, 12));
        }
        for (int wrong : outside(0, 11)) {
            refusedByMixed("common(0, 1, " + wrong + ")", ARGUMENT, d -> d.common(0, 1, wrong));
            refusedByMixed("common(4, 4, " + wrong + ")", ARGUMENT, d -> d.common(4, 4, wrong));
        }
    }

    // ---- promise 26

    private static void ifPaidAtTheEdges() {
        MemoryDesk desk = desk("a;" + TWELVE);
        desk.rate(0, 1);
        desk.rate(3, 99);
        equal("the least", desk.ifPaid(0, 0), 1);
        equal("the greatest", desk.ifPaid(1, 3), 1188);
        desk.pays(4, 99);
        equal("rounded down to nothing", desk.ifPaid(0, 0), 0);
        equal("rounded down, 11.88", desk.ifPaid(1, 0), 11);
        desk.pays(4, 0);
        equal("nothing", desk.ifPaid(1, 3), 0);
        equal("nobody has earned it", desk.count(8), 0);
        equal("still open", desk.count(1), 2);
    }

    private static void ifPaidByStage() {
        MemoryDesk desk = desk("abcd;abcd");
        equal("open: without rows", desk.ifPaid(0, 0), 40);
        desk.assign(0, 1);
        desk.pays(4, 50);
        equal("assigned: the fixed one", desk.ifPaid(0, 0), 40);
        equal("open: the one that would be fixed", desk.ifPaid(1, 0), 20);
        desk.deliver(0);
        desk.rate(2, 7);
        equal("delivered: the fixed one", desk.ifPaid(0, 2), 28);
        equal("open: alike now, 4 * 7 * 10 / 100", desk.ifPaid(1, 2), 2);
        desk.revise(0, 2, 4);
        equal("revised: the fixed one, as nothing was changed", desk.ifPaid(0, 2), 28);
        change(desk, 0, "abcd");
        equal("changed: fixed anew", desk.ifPaid(0, 2), 2);
    }

    private static void ifPaidRefusals() {
        for (int wrong : outside(0, 4)) {
            refusedByMixed("ifPaid(" + wrong + ", 0)", INDEX, d -> d.ifPaid(wrong, 0));
            refusedByMixed("ifPaid(" + wrong + ", 4)", INDEX, d -> d.ifPaid(wrong, 4));
        }
        for (int wrong : outside(0, 3)) {
            for (int segment = 0; segment < 5; segment++) {
                int asked = segment;
                refusedByMixed("ifPaid(" + asked + ", " + wrong + ")", INDEX, d -> d.ifPaid(asked, wrong));
            }
        }
    }

    // ---- promise 27

    private static void orderIs(String what, MemoryDesk desk, int due) {
        equal(what, desk.orderMatters(0, 1), due);
        equal(what + ", the other way round", desk.orderMatters(1, 0), -due);
    }

    private static void orderMattersAtTheEdges() {
        orderIs("alike", desk("abcd;abcd"), 0);
        orderIs("nothing in common", desk("abcd;efg"), 0);
        orderIs("4 * 100 + 2 * 80 less 2 * 100 + 4 * 80", desk("abcd;ab"), 40);
        orderIs("a match of 15", desk(TWELVE + ";a"), 0);
        orderIs("12 * 100 + 11 * 30 less 11 * 100 + 12 * 30", desk(TWELVE + ";abcdefghabc"), 70);
        MemoryDesk last = desk(TEN.substring(0, 16) + "ab;abcd");
        equal("the last two of ten", last.orderMatters(9, 8), 40);
        MemoryDesk near = desk("abcd;abce;abcd");
        finish(near, 2, 0);
        orderIs("4 * 10 + 4 * 60 both ways", near, 0);
        MemoryDesk once = desk("abcd;ab;abcdef");
        finish(once, 2, 0);
        orderIs("the memory has 80 and 50, the other one 66: no band is another one", once, 0);
        MemoryDesk free = desk("abcd;ab");
        free.pays(3, 0);
        orderIs("4 * 100 less 2 * 100", free, 200);
        MemoryDesk disputed = desk("abcd;ab");
        disputed.propose(0, 0, 0);
        disputed.propose(0, 1, 1);
        orderIs("terms do not matter", disputed, 40);
        MemoryDesk rates = desk("abcd;ab");
        rates.rate(0, 99);
        orderIs("rates do not matter", rates, 40);
    }

    /** Every match that there can be of two rows, so that the edges of all bands are among them. */
    private static void orderMattersForEveryMatch() {
        int[] percents = {10, 30, 60, 80, 100};
        for (int one = 1; one <= 12; one++) {
            for (int two = 1; two <= 12; two++) {
                for (int common = 0; common <= Math.min(one, two); common++) {
                    int then = percents[TermsBoundaryTest.bandOf(200 * common / (one + two))];
                    String first = "a".repeat(common) + "b".repeat(one - common);
                    String second = "a".repeat(common) + "c".repeat(two - common);
                    String what = first + " and " + second;
                    orderIs(what, desk(first + ";" + second), (one * 100 + two * then) - (two * 100 + one * then));
                    MemoryDesk known = desk(first + ";" + second + ";" + first);
                    finish(known, 2, 0);
                    orderIs(what + ", the first one delivered before", known, 0);
                }
            }
        }
    }

    /** Row 0 is "aa". Delivering a segment drops it only if there are 30 rows. */
    private static void orderMattersWithAFullMemory() {
        // With 29 or fewer rows: aa costs 2 * 10 at any time.
        MemoryDesk notYet = smallRows(29, ";hh;aa");
        equal("29 rows", notYet.orderMatters(1, 2), 0);
        // With 30: behind hh, aa has only rows with one a.
        MemoryDesk full = smallRows(30, ";hh;aa");
        equal("30 rows: 160 + 160 less 20 + 160", full.orderMatters(1, 2), 140);
        equal("and the other way round", full.orderMatters(2, 1), -140);
        equal("the rows stay", full.count(5), 30);
        Check.equal("row 0 stays", wordsOfRow(full, 0), "aa");
        MemoryDesk second = smallRows(30, ";hh;ab");
        equal("only one row is dropped, and row 1 is alike", second.orderMatters(1, 2), 0);
        MemoryDesk latest = smallRows(30, ";hh;df");
        equal("the last row stays", latest.orderMatters(1, 2), 0);
        MemoryDesk twice = smallRows(30, ";aa;aa");
        equal("the dropped one comes again", twice.orderMatters(1, 2), 0);
    }

    private static void orderMattersRefusals() {
        for (int wrong : outside(0, 4)) {
            refusedByMixed("orderMatters(" + wrong + ", 3)", INDEX, d -> d.orderMatters(wrong, 3));
            refusedByMixed("orderMatters(3, " + wrong + ")", INDEX, d -> d.orderMatters(3, wrong));
            refusedByMixed("both are " + wrong, INDEX, d -> d.orderMatters(wrong, wrong));
            refusedByMixed("with a delivered one", INDEX, d -> d.orderMatters(1, wrong));
        }
        for (int segment = 0; segment < 5; segment++) {
            int same = segment;
            refusedByMixed("both are " + same, ARGUMENT, d -> d.orderMatters(same, same));
        }
        for (int segment = 0; segment < 3; segment++) {
            int taken = segment;
            refusedByMixed("the first one is not open", STATE, d -> d.orderMatters(taken, 3));
            refusedByMixed("the second one is not open", STATE, d -> d.orderMatters(4, taken));
            refusedByMixed("none is open", STATE, d -> d.orderMatters(taken, (taken + 1) % 3));
        }
    }

    // ---- promises 28 and 29

    private static void savedAtTheEdges() {
        equal("no segments", new MemoryDesk().saved(), bits(0.0f));
        equal("nothing is saved", desk("ab;cd").saved(), bits(0.0f));
        MemoryDesk all = desk("ab;cd");
        all.pays(4, 0);
        equal("all is saved", all.saved(), bits(1.0f));
        MemoryDesk undone = desk("ab");
        undone.pays(4, 0);
        undone.undo();
        undone.undo();
        equal("no segments again", undone.saved(), bits(0.0f));
        MemoryDesk desk = desk("abcd;abcd");
        finish(desk, 0, 0);
        equal("delivered ones count, by the match that they have now", desk.saved(), bits(720.0f / 800.0f));
        desk.pays(0, 50);
        equal("and by the percentage now", desk.saved(), bits(400.0f / 800.0f));
    }

    private static void savedBitByBit() {
        for (String row : new String[] {"a", "abc", "abcdefg", TWELVE}) {
            MemoryDesk desk = desk(row);
            int words = row.length();
            for (int percent = 0; percent <= 100; percent++) {
                desk.pays(4, percent);
                equal(words + " words, " + percent, desk.saved(),
                        bits((float) (words * (100 - percent)) / (float) (100 * words)));
            }
        }
    }

    private static void wordCostAtTheEdges() {
        Check.equal("no words", new MemoryDesk().wordCost(), 0.0);
        MemoryDesk desk = desk("abc");
        desk.assign(0, 0);
        Check.equal("no words delivered", desk.wordCost(), 0.0);
        desk.deliver(0);
        Check.equal("30 / 3", desk.wordCost(), 10.0);
        desk.undo();
        Check.equal("undone", desk.wordCost(), 0.0);
        MemoryDesk free = desk("abc");
        free.pays(4, 0);
        finish(free, 0, 0);
        Check.equal("0 / 3", free.wordCost(), 0.0);
        free.revise(0, 1, 3);
        Check.equal("9 / 3", free.wordCost(), 3.0);
        MemoryDesk most = desk(TWELVE);
        most.rate(0, 99);
        most.rate(1, 99);
        most.set(0, 100);
        finish(most, 0, 0);
        most.revise(0, 1, 0);
        Check.equal("2376 / 12", most.wordCost(), 198.0);
        for (int rate = 1; rate <= 99; rate++) {
            MemoryDesk other = desk("abcdefg;hhh");
            other.rate(2, rate);
            other.pays(4, 37);
            finish(other, 0, 2);
            Check.equal("rate " + rate, other.wordCost(), (double) (7 * rate * 37 / 100) / 7.0);
            finish(other, 1, 1);
            Check.equal("rates " + rate + " and 10", other.wordCost(),
                    (double) (7 * rate * 37 / 100 + 11) / 10.0);
            equal("digest with it", other.digest(), Digest.asListed(other, ""));
        }
    }

    // ---- promise 30

    /** The hash goes far beyond what a long holds; Digest.asListed works it out without overflow. */
    private static void digestAtTheEdges() {
        MemoryDesk mixed = mixed();
        equal("of everything", mixed.digest(), Digest.asListed(mixed, "ab"));
        MemoryDesk ten = desk(TEN);
        equal("ten segments", ten.digest(), Digest.asListed(ten, ""));
        MemoryDesk full = smallRows(30, "");
        equal("30 rows", full.digest(), Digest.asListed(full, ""));
        MemoryDesk over = smallRows(33, "");
        equal("33 rows were delivered", over.digest(), Digest.asListed(over, ""));
        MemoryDesk longest = desk(TWELVE + ";" + TWELVE);
        finish(longest, 1, 3);
        equal("twelve words", longest.digest(), Digest.asListed(longest, ""));
        String sixty = "~".repeat(30) + "!".repeat(30);
        MemoryDesk buffer = new MemoryDesk();
        type(buffer, sixty);
        equal("60 characters", buffer.digest(), Digest.asListed(buffer, sixty));
        buffer.clearBuffer();
        equal("none", buffer.digest(), Digest.asListed(buffer, ""));
    }

    private static void digestTellsStatesApart() {
        long mixed = mixed().digest();
        equal("the same calls, the same digest", mixed().digest(), mixed);
        Twins.Use[] changes = {
            d -> d.rate(0, 40), d -> d.pays(3, 81), d -> d.set(0, 31), d -> d.assign(3, 0), d -> d.deliver(2),
            d -> d.revise(1, 3, 0), d -> d.propose(0, 0, 0), d -> d.rule(6, 1), d -> d.append('a'),
            d -> d.clearBuffer(), d -> d.add(), d -> d.change(4), d -> d.undo(),
        };
        for (int i = 1; i < changes.length; i++) {
            MemoryDesk desk = mixed();
            changes[i].on(desk);
            equal("change " + i, desk.digest() == mixed ? 1 : 0, 0);
        }
        MemoryDesk same = mixed();
        changes[0].on(same);
        equal("the same rate, and six states as before", same.digest(), mixed);
    }

    private static void looksChangeNothing() {
        MemoryDesk desk = mixed();
        long before = desk.digest();
        for (int segment = 0; segment < 5; segment++) {
            properties(desk, segment);
            desk.word(segment, 11);
            desk.ifPaid(segment, 3);
            desk.common(segment, 0, 11);
            desk.near(segment, 1, 2);
        }
        for (int what = 0; what < 12; what++) {
            desk.count(what);
        }
        propertiesOfTranslator(desk, 3);
        propertiesOfTerm(desk, 6);
        propertiesOfBand(desk, 4);
        desk.remembered(1, 0);
        desk.setting(1);
        desk.orderMatters(3, 4);
        desk.saved();
        desk.wordCost();
        desk.firstError();
        equal("the digest", desk.digest(), before);
        equal("undo", desk.undo(), 5);
        equal("of the last call", desk.segment(2, 1), 0);
    }
}
