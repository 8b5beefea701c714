import java.util.ArrayDeque;

/** The boundary cases of the document's chapter Terms, each sentence with a test of its own. */
public final class TermsBoundaryTest extends TestDesks {
    private TermsBoundaryTest() {
    }

    public static void main(String[] args) {
        wordsAreTheLettersAToH();
        tenSegmentsAtOnce();
        tenSegmentsOneByOne();
        elevenSegmentsAreTooMany();
        segmentsAreNumberedAsTheyCome();
        rowsHaveOneToTwelveWords();
        rowsOfThirteenWordsAreTooLong();
        emptyRowsAreTooShort();
        deliveredRowsComeBehindTheOthers();
        thirtyRowsStay();
        theThirtyFirstRowDropsTheFirst();
        sixtyTwoRowsLeaveTheLastThirty();
        bestRowsMoveWithTheirNumbers();
        aDroppedRowMatchesNoMore();
        undoBringsADroppedRowBack();
        everyMatchItsBandAndPercentage();
        matchIsOneHundredOnlyIfAlike();
        commonRowsKeepTheOrder();
        matchIsZeroWithoutRows();
        matchIsTheGreatestWhereverItsRowIs();
        bestRowIsTheLatestOfSeveral();
        matchesAreComparedRoundedDown();
        bestRowOfNothingInCommonIsTheLatest();
        bandsPayTheirFirstPercentages();
        bandIsFixedWhenItIsAssigned();
        translatorsBeginWithTenAndNothingEarned();
        onlyOpenOnesAreAssigned();
        onlyAssignedOnesAreDelivered();
        onlyDeliveredOnesAreRevised();
        allStagesCanChange();
        disputesAtBothEndsOfARowStopIt();
        payIsRoundedDown();
        payIsByTheRateOfTheDelivery();
        leastAndGreatestPay();
        revisionsChangeNoneToAllWords();
        ownTranslatorsDoNotRevise();
        feesAreForAllWordsAndRoundedDown();
        leastAndGreatestFees();
        lossesAreRoundedDown();
        lossesEndAtNothing();
        lossesAreByTheRateOfTheDelivery();
        changedOpenOnesStayOpen();
        changedAssignedOnesAreFixedAnew();
        changedDeliveredOnesAreAssignedAgain();
        changedRevisedOnesAreAssignedAgain();
        earlierPayAddsUp();
        proposalsAreZeroToNineOrNone();
        disputesNeedTwoUnlikeProposals();
        rulingsEndDisputes();
        wordsAreRuledOnce();
        rulingsNeedAProposalThatSomebodyHas();
        proposalsStayBehindARuling();
        settingsAtFirstAndAtTheirEdges();
        bufferHasSixtyCharacters();
        everyCharacterCode();
        syntaxErrorsBehindEachBeginning();
        rowsOfSegmentsOfAnyLength();
        trailingSemicolonsAreNoErrorsButNotComplete();
        eachUndoableCallSaves();
        undoableCallsSaveIfTheyChangeNothing();
        otherCallsSaveNothing();
        sixStatesAreSavedAndTheOldestIsDropped();
        undoLeavesTheBuffer();
        undoTakesSegmentsAwayAndAddsThemAnew();
        undoTakesRulingsBack();
        savedStatesAreUsedAroundAndAround();
        Check.end("TermsBoundaryTest");
    }

    // ---- words, segments, memory

    private static void wordsAreTheLettersAToH() {
        MemoryDesk desk = desk("abcdefgh");
        for (int word = 0; word < 8; word++) {
            equal("the word of the letter " + (char) ('a' + word), desk.word(0, word), word);
        }
        for (char wrong : "`iAHz0".toCharArray()) {
            MemoryDesk other = new MemoryDesk();
            other.append(wrong);
            equal("no word: " + wrong, other.firstError(), 0);
            Twins.refused("add of " + wrong, () -> typed("" + wrong), ARGUMENT, d -> d.add());
        }
    }

    private static MemoryDesk typed(String text) {
        MemoryDesk desk = new MemoryDesk();
        type(desk, text);
        return desk;
    }

    private static MemoryDesk deskAnd(String segments, String typed) {
        MemoryDesk desk = desk(segments);
        type(desk, typed);
        return desk;
    }

    private static final String TEN = "a;b;c;d;e;f;g;h;a;b";
    private static final String NINE = "a;b;c;d;e;f;g;h;a";

    private static void tenSegmentsAtOnce() {
        MemoryDesk desk = typed(TEN);
        equal("ten at once", desk.add(), 10);
        equal("segments", desk.count(0), 10);
        equal("the last one", desk.word(9, 0), 1);
        Twins.refused("segment 10", () -> desk(TEN), INDEX, d -> d.segment(10, 0));
    }

    private static void tenSegmentsOneByOne() {
        MemoryDesk desk = new MemoryDesk();
        for (int i = 1; i <= 10; i++) {
            desk.append('h');
            equal("add", desk.add(), i);
        }
        MemoryDesk nine = deskAnd(NINE, "h");
        equal("nine and one", nine.add(), 10);
        MemoryDesk one = deskAnd("h", NINE);
        equal("one and nine", one.add(), 10);
    }

    private static void elevenSegmentsAreTooMany() {
        Twins.refused("eleven at once", () -> typed(TEN + ";c"), STATE, d -> d.add());
        Twins.refused("ten and one", () -> deskAnd(TEN, "c"), STATE, d -> d.add());
        Twins.refused("nine and two", () -> deskAnd(NINE, "c;d"), STATE, d -> d.add());
        Twins.refused("one and ten", () -> deskAnd("c", TEN), STATE, d -> d.add());
        Twins.refused("ten and ten", () -> deskAnd(TEN, TEN), STATE, d -> d.add());
        Twins.refused("thirty at once", () -> typed(TEN + ";" + TEN + ";" + TEN), STATE, d -> d.add());
        MemoryDesk desk = deskAnd(NINE, "c");
        desk.add();
        desk.undo();
        type(desk, "d");
        equal("a place that undo made free", desk.add(), 10);
        equal("is taken by the new one", desk.word(9, 0), 3);
    }

    private static void segmentsAreNumberedAsTheyCome() {
        MemoryDesk desk = deskAnd("ab;c", "d;efg");
        desk.add();
        Check.equal("0", wordsOf(desk, 0), "ab");
        Check.equal("1", wordsOf(desk, 1), "c");
        Check.equal("2", wordsOf(desk, 2), "d");
        Check.equal("3", wordsOf(desk, 3), "efg");
    }

    private static final String TWELVE = "abcdefghabcd";

    private static void rowsHaveOneToTwelveWords() {
        MemoryDesk desk = desk("h;" + TWELVE);
        Check.equal("one word", source(desk, 0), "h...........");
        equal("how many", desk.segment(0, 0), 1);
        Check.equal("twelve words", source(desk, 1), TWELVE);
        equal("how many", desk.segment(1, 0), 12);
        change(desk, 0, TWELVE);
        change(desk, 1, "g");
        Check.equal("changed to twelve", source(desk, 0), TWELVE);
        Check.equal("changed to one", source(desk, 1), "g...........");
        finish(desk, 0, 0);
        finish(desk, 1, 0);
        Check.equal("remembered: twelve", rowOfMemory(desk, 0), TWELVE);
        Check.equal("remembered: one", rowOfMemory(desk, 1), "g...........");
    }

    private static void notASource(String text) {
        Twins.refused("add of " + text, () -> deskAnd("ab;cd", text), ARGUMENT, d -> d.add());
        Twins.refused("change to " + text, () -> deskAnd("ab;cd", text), ARGUMENT, d -> d.change(1));
    }

    private static void rowsOfThirteenWordsAreTooLong() {
        notASource(TWELVE + "a");
        notASource("a;" + TWELVE + "h");
        notASource(TWELVE + "a;b");
        notASource(TWELVE + ";" + TWELVE + ";" + TWELVE + "a");
    }

    private static void emptyRowsAreTooShort() {
        notASource("");
        notASource(";");
        notASource(";a");
        notASource("a;");
        notASource("a;;b");
        notASource("a;b;");
    }

    private static void deliveredRowsComeBehindTheOthers() {
        MemoryDesk desk = desk("ab;cde;f");
        finish(desk, 2, 0);
        finish(desk, 0, 1);
        equal("two rows", desk.count(5), 2);
        finish(desk, 1, 0);
        Check.equal("row 0", wordsOfRow(desk, 0), "f");
        Check.equal("row 1", wordsOfRow(desk, 1), "ab");
        Check.equal("row 2", wordsOfRow(desk, 2), "cde");
    }

    private static void memoryHolds(String what, MemoryDesk desk, int rows, int firstSmallRow) {
        equal(what + ": rows", desk.count(5), rows);
        for (int row = 0; row < rows; row++) {
            Check.equal(what + ": row " + row, wordsOfRow(desk, row), smallRow(firstSmallRow + row));
        }
        refused(what + ": the row behind", desk, INDEX, () -> desk.remembered(rows, 0));
    }

    private static void thirtyRowsStay() {
        memoryHolds("29 delivered", smallRows(29, ""), 29, 0);
        memoryHolds("30 delivered", smallRows(30, ""), 30, 0);
    }

    private static void theThirtyFirstRowDropsTheFirst() {
        memoryHolds("31 delivered", smallRows(31, ""), 30, 1);
        memoryHolds("32 delivered", smallRows(32, ""), 30, 2);
    }

    private static void sixtyTwoRowsLeaveTheLastThirty() {
        memoryHolds("62 delivered", smallRows(62, ""), 30, 32);
    }

    private static void bestRowsMoveWithTheirNumbers() {
        MemoryDesk desk = smallRows(29, ";" + smallRow(17) + ";h");
        equal("of 29", desk.segment(1, 4), 17);
        change(desk, 0, "gg");
        desk.deliver(0);
        equal("of 30", desk.segment(1, 4), 17);
        finish(desk, 2, 1);
        equal("of 31, less by 1", desk.segment(1, 4), 16);
        equal("still alike", desk.segment(1, 3), 100);
        equal("near moves too", desk.near(1, 16, 0), 100);
        equal("the one that was 16", desk.near(1, 15, 0), 50);
    }

    private static void aDroppedRowMatchesNoMore() {
        MemoryDesk desk = smallRows(30, ";aa;h");
        equal("alike with row 0", desk.segment(1, 3), 100);
        equal("row 0", desk.segment(1, 4), 0);
        equal("would pay by band 0", desk.ifPaid(1, 0), 2);
        finish(desk, 2, 1);
        equal("one a of two", desk.segment(1, 3), 50);
        equal("ga was 24, is 23", desk.segment(1, 4), 23);
        equal("would pay by band 3", desk.ifPaid(1, 0), 16);
        equal("assigned by band 3", desk.assign(1, 0), 3);
    }

    private static void undoBringsADroppedRowBack() {
        MemoryDesk desk = smallRows(30, ";h");
        finish(desk, 1, 1);
        Check.equal("row 0 was 1", wordsOfRow(desk, 0), smallRow(1));
        desk.undo();
        desk.undo();
        memoryHolds("undone", desk, 30, 0);
    }

    // ---- matches, bands

    static int bandOf(int match) {
        return match == 100 ? 0 : match >= 85 ? 1 : match >= 70 ? 2 : match >= 50 ? 3 : 4;
    }

    /** Rows with so many words in common, all that there can be: 85, 84, 70, 69 and 50 are among them. */
    private static void everyMatchItsBandAndPercentage() {
        int[] percents = {10, 30, 60, 80, 100};
        boolean[] seen = new boolean[101];
        for (int own = 1; own <= 12; own++) {
            for (int other = 1; other <= 12; other++) {
                for (int common = 0; common <= Math.min(own, other); common++) {
                    int match = 200 * common / (own + other);
                    String what = common + " of " + own + " and " + other + ": ";
                    MemoryDesk desk = desk("a".repeat(common) + "b".repeat(own - common) + ";"
                            + "a".repeat(common) + "c".repeat(other - common));
                    finish(desk, 0, 0);
                    int band = bandOf(match);
                    seen[match] = true;
                    equal(what + "match", desk.segment(1, 3), match);
                    equal(what + "length", desk.near(1, 0, 1), common);
                    equal(what + "near", desk.near(1, 0, 0), match);
                    equal(what + "float", desk.near(1, 0, 2),
                            Float.floatToIntBits((float) (2 * common) / (own + other)));
                    equal(what + "saved", desk.saved(), Float.floatToIntBits(
                            (float) (own * 90 + other * (100 - percents[band])) / (float) (100 * (own + other))));
                    equal(what + "ifPaid", desk.ifPaid(1, 0), other * 10 * percents[band] / 100);
                    equal(what + "band", desk.assign(1, 0), band);
                    equal(what + "fixed band", desk.segment(1, 5), band);
                    equal(what + "percentage", desk.segment(1, 6), percents[band]);
                    equal(what + "pay", desk.deliver(1), other * 10 * percents[band] / 100);
                }
            }
        }
        for (int edge : new int[] {0, 47, 50, 69, 70, 84, 85, 95, 100}) {
            equal("the match " + edge + " came up", seen[edge] ? 1 : 0, 1);
        }
    }

    private static void matchIsOneHundredOnlyIfAlike() {
        for (String[] pair : new String[][] {{"a", "a"}, {TWELVE, TWELVE}, {"hh", "hh"}}) {
            MemoryDesk desk = desk(pair[0] + ";" + pair[1]);
            finish(desk, 0, 0);
            equal(pair[0] + " and " + pair[1], desk.segment(1, 3), 100);
        }
        for (String[] pair : new String[][] {{"ab", "ba"}, {TWELVE, "abcdefghabdc"}, {"hh", "hhh"},
            {"abcdefghabc", TWELVE}, {TWELVE, "bcdefghabcd"}}) {
            MemoryDesk desk = desk(pair[0] + ";" + pair[1]);
            finish(desk, 0, 0);
            equal(pair[0] + " and " + pair[1], desk.segment(1, 3) < 100 ? 1 : 0, 1);
            equal("not in band 0", desk.assign(1, 0) > 0 ? 1 : 0, 1);
        }
    }

    private static void commonLength(String one, String other, int due) {
        MemoryDesk desk = desk(one + ";" + other);
        finish(desk, 1, 0);
        equal(one + " and " + other, desk.near(0, 0, 1), due);
        MemoryDesk turned = desk(other + ";" + one);
        finish(turned, 1, 0);
        equal(other + " and " + one, turned.near(0, 0, 1), due);
    }

    /** "by leaving words out": at the front, in the middle, behind, but never by turning them. */
    private static void commonRowsKeepTheOrder() {
        commonLength("a", "b", 0);
        commonLength("a", TWELVE, 1);
        commonLength("ab", "ba", 1);
        commonLength("cab", "ab", 2);
        commonLength("acb", "ab", 2);
        commonLength("abc", "ab", 2);
        commonLength("abcdefgh", "hgfedcba", 1);
        commonLength("abababababab", "babababababa", 11);
        commonLength("aabbccddeeff", "ffeeddccbbaa", 2);
        commonLength("bdcaba", "abcbdab", 4);
        commonLength("aaaaaaaaaaaa", "abababababab", 6);
        commonLength("abcdefghabcd", "defghabcdabc", 9);
        commonLength("hhhhhhhhhhhg", "ghhhhhhhhhhh", 11);
    }

    private static void matchIsZeroWithoutRows() {
        MemoryDesk desk = desk("ab;ab");
        equal("the match", desk.segment(0, 3), 0);
        equal("no best row", desk.segment(0, 4), NONE);
        equal("band 4", desk.assign(0, 0), 4);
        equal("assigned ones are not in the memory", desk.segment(1, 3), 0);
        equal("no best row", desk.segment(1, 4), NONE);
        desk.deliver(0);
        equal("one row", desk.segment(1, 4), 0);
        desk.undo();
        equal("none again", desk.segment(1, 3), 0);
        equal("no best row again", desk.segment(1, 4), NONE);
    }

    private static void matchIsTheGreatestWhereverItsRowIs() {
        String[] orders = {"abcd;abce;abgh;abcd", "abce;abcd;abgh;abcd", "abgh;abce;abcd;abcd"};
        for (int at = 0; at < 3; at++) {
            MemoryDesk desk = desk(orders[at]);
            finish(desk, 0, 0);
            finish(desk, 1, 0);
            finish(desk, 2, 0);
            equal("the match", desk.segment(3, 3), 100);
            equal("its row", desk.segment(3, 4), at);
        }
    }

    private static void bestRowIsTheLatestOfSeveral() {
        MemoryDesk desk = desk("abcd;abcd;ab;abcd;ab");
        finish(desk, 0, 0);
        equal("of one", desk.segment(3, 4), 0);
        finish(desk, 1, 0);
        equal("of two alike", desk.segment(3, 4), 1);
        finish(desk, 2, 0);
        equal("a later one is not as near", desk.segment(3, 4), 1);
        finish(desk, 3, 0);
        equal("of three alike", desk.segment(3, 4), 3);
        equal("the one between", desk.segment(4, 4), 2);
        MemoryDesk unlike = desk("abc;abd;ab");
        finish(unlike, 0, 0);
        finish(unlike, 1, 0);
        equal("unlike rows, the same match", unlike.segment(2, 4), 1);
    }

    /** 22 of 23 is nearer than 20 of 21, but rounded down both matches are 95. */
    private static void matchesAreComparedRoundedDown() {
        MemoryDesk desk = desk("abcdefghabcd;abcdefghab;abcdefghabc;abcdefgh");
        finish(desk, 0, 0);
        equal("the first row", desk.near(2, 0, 0), 95);
        equal("of one", desk.segment(2, 4), 0);
        finish(desk, 1, 0);
        equal("the second row", desk.near(2, 1, 0), 95);
        equal("the latest of two", desk.segment(2, 4), 1);
        finish(desk, 3, 0);
        equal("the third row", desk.near(2, 2, 0), 84);
        equal("the latest of two", desk.segment(2, 4), 1);
    }

    private static void bestRowOfNothingInCommonIsTheLatest() {
        MemoryDesk desk = desk("ab;cd;h;g");
        finish(desk, 0, 0);
        equal("the match", desk.segment(2, 3), 0);
        equal("of one", desk.segment(2, 4), 0);
        finish(desk, 1, 0);
        equal("of two", desk.segment(2, 4), 1);
        equal("the match", desk.segment(2, 3), 0);
        MemoryDesk full = smallRows(32, ";h");
        equal("of 30", full.segment(1, 4), 29);
    }

    private static void bandsPayTheirFirstPercentages() {
        MemoryDesk desk = new MemoryDesk();
        int[] percents = {10, 30, 60, 80, 100};
        for (int band = 0; band < 5; band++) {
            equal("band " + band, desk.band(band, 0), percents[band]);
        }
    }

    private static void bandIsFixedWhenItIsAssigned() {
        MemoryDesk desk = desk("abcd;abcd;abcd");
        desk.assign(0, 0);
        desk.pays(4, 0);
        equal("the percentage stays", desk.segment(0, 6), 100);
        finish(desk, 1, 0);
        equal("the match is another one now", desk.segment(0, 3), 100);
        equal("the band stays", desk.segment(0, 5), 4);
        equal("the percentage stays", desk.segment(0, 6), 100);
        equal("the pay is by the fixed one", desk.deliver(0), 40);
        equal("words of band 4", desk.band(4, 1), 8);
        equal("words of band 0", desk.band(0, 1), 0);
        equal("it stays behind the delivery", desk.segment(0, 6), 100);
        desk.revise(0, 1, 0);
        desk.pays(4, 1);
        equal("and behind the revision", desk.segment(0, 6), 100);
    }

    // ---- translators, stages

    private static void translatorsBeginWithTenAndNothingEarned() {
        MemoryDesk desk = new MemoryDesk();
        for (int translator = 0; translator < 4; translator++) {
            equal("rate", desk.translator(translator, 0), 10);
            equal("earned", desk.translator(translator, 1), 0);
        }
    }

    /** Segment 0 is the translator's 1 and stands at this stage; segment 1 is open. */
    private static MemoryDesk at(int stage) {
        MemoryDesk desk = desk("abc;hg");
        if (stage > 0) {
            desk.assign(0, 1);
        }
        if (stage > 1) {
            desk.deliver(0);
        }
        if (stage > 2) {
            desk.revise(0, 2, 1);
        }
        return desk;
    }

    private static void onlyOpenOnesAreAssigned() {
        equal("an open one", at(0).assign(0, 0), 4);
        for (int stage = 1; stage <= 3; stage++) {
            int reached = stage;
            equal("the stage", at(stage).segment(0, 1), stage);
            Twins.refused("assign at " + stage, () -> at(reached), STATE, d -> d.assign(0, 0));
            Twins.refused("assign to the same at " + stage, () -> at(reached), STATE, d -> d.assign(0, 1));
        }
    }

    private static void onlyAssignedOnesAreDelivered() {
        equal("an assigned one", at(1).deliver(0), 30);
        for (int stage : new int[] {0, 2, 3}) {
            Twins.refused("deliver at " + stage, () -> at(stage), STATE, d -> d.deliver(0));
        }
    }

    private static void onlyDeliveredOnesAreRevised() {
        equal("a delivered one", at(2).revise(0, 0, 0), 30);
        for (int stage : new int[] {0, 1, 3}) {
            Twins.refused("revise at " + stage, () -> at(stage), STATE, d -> d.revise(0, 0, 0));
            Twins.refused("revise again at " + stage, () -> at(stage), STATE, d -> d.revise(0, 2, 1));
        }
    }

    private static void allStagesCanChange() {
        for (int stage = 0; stage <= 3; stage++) {
            MemoryDesk desk = at(stage);
            equal("change at " + stage, change(desk, 0, "ab"), stage == 0 ? 0 : 1);
            equal("the stage then", desk.segment(0, 1), stage == 0 ? 0 : 1);
            equal("its translator", desk.segment(0, 2), stage == 0 ? NONE : 1);
        }
    }

    private static MemoryDesk disputed(String row, int word) {
        MemoryDesk desk = desk(row + ";ab");
        desk.assign(0, 0);
        desk.propose(word, 1, 0);
        desk.propose(word, 2, 9);
        return desk;
    }

    /** "if none of its words is disputed" */
    private static void disputesAtBothEndsOfARowStopIt() {
        Twins.refused("the first word", () -> disputed("habcdefgabcd", 7), STATE, d -> d.deliver(0));
        Twins.refused("the twelfth word", () -> disputed("abcdefgabcdh", 7), STATE, d -> d.deliver(0));
        Twins.refused("one in the middle", () -> disputed("abcdhefgabcd", 7), STATE, d -> d.deliver(0));
        Twins.refused("the only word", () -> disputed("a", 0), STATE, d -> d.deliver(0));
        equal("a word of another segment", disputed("cdefgh", 0).deliver(0), 60);
        equal("a word of none", disputed("abcdefg", 7).deliver(0), 70);
        MemoryDesk desk = disputed("abc", 0);
        equal("it says so", desk.segment(0, 11), 1);
        equal("open ones can be disputed", desk.segment(1, 11), 1);
        equal("and assigned", desk.assign(1, 3), 4);
        equal("and changed", change(desk, 0, "cde"), 1);
        equal("it has none then", desk.segment(0, 11), 0);
        equal("and is delivered", desk.deliver(0), 30);
        MemoryDesk delivered = desk("abc");
        finish(delivered, 0, 0);
        delivered.propose(0, 1, 0);
        delivered.propose(0, 2, 9);
        equal("delivered ones can be disputed", delivered.segment(0, 11), 1);
        equal("and revised", delivered.revise(0, 1, 0), 30);
        equal("revised ones can be disputed", delivered.segment(0, 11), 1);
    }

    private static MemoryDesk paying(int rate, int percent, String row) {
        MemoryDesk desk = desk(row);
        desk.rate(0, rate);
        desk.pays(4, percent);
        desk.assign(0, 0);
        return desk;
    }

    private static void payIsRoundedDown() {
        equal("3 * 7 * 33 / 100 = 6.93", paying(7, 33, "abc").deliver(0), 6);
        equal("1 * 1 * 99 / 100", paying(1, 99, "a").deliver(0), 0);
        equal("1 * 10 * 99 / 100 = 9.9", paying(10, 99, "a").deliver(0), 9);
        equal("4 * 5 * 5 / 100 = 1", paying(5, 5, "abcd").deliver(0), 1);
        equal("12 * 11 * 1 / 100 = 1.32", paying(11, 1, TWELVE).deliver(0), 1);
        MemoryDesk desk = paying(7, 33, "abc");
        desk.deliver(0);
        equal("what is earned is rounded down too", desk.translator(0, 1), 6);
        equal("and the money of the band", desk.band(4, 2), 6);
    }

    private static void payIsByTheRateOfTheDelivery() {
        MemoryDesk desk = desk("abc");
        desk.assign(0, 2);
        desk.rate(2, 99);
        desk.rate(1, 50);
        equal("the rate as it is then, the own one", desk.deliver(0), 297);
        desk.rate(2, 1);
        equal("it stays", desk.segment(0, 7), 297);
        equal("earned", desk.translator(2, 1), 297);
    }

    private static void leastAndGreatestPay() {
        equal("one word, rate 1", paying(1, 100, "a").deliver(0), 1);
        equal("nothing is paid", paying(99, 0, TWELVE).deliver(0), 0);
        equal("12 words, rate 99", paying(99, 100, TWELVE).deliver(0), 1188);
    }

    /** Segment 0 was delivered by the translator 0 at this rate, with all of the money. */
    private static MemoryDesk delivered(String row, int rate, int fees, int losses) {
        MemoryDesk desk = desk(row);
        desk.rate(0, rate);
        desk.set(0, fees);
        desk.set(1, losses);
        finish(desk, 0, 0);
        return desk;
    }

    private static void revisionsChangeNoneToAllWords() {
        for (String row : new String[] {"a", "abcd", TWELVE}) {
            int words = row.length();
            equal("none of " + words, delivered(row, 10, 30, 50).revise(0, 1, 0), 10 * words);
            MemoryDesk desk = delivered(row, 10, 30, 50);
            equal("all of " + words, desk.revise(0, 1, words), 5 * words);
            equal("how many", desk.segment(0, 10), words);
            for (int wrong : outside(0, words)) {
                Twins.refused(wrong + " of " + words, () -> delivered(row, 10, 30, 50), ARGUMENT,
                        d -> d.revise(0, 1, wrong));
            }
        }
        MemoryDesk none = delivered("abc", 10, 30, 50);
        none.revise(0, 3, 0);
        equal("revised, though nothing was changed", none.segment(0, 1), 3);
        equal("who", none.segment(0, 9), 3);
        equal("no words", none.segment(0, 10), 0);
    }

    private static void ownTranslatorsDoNotRevise() {
        for (int own = 0; own < 4; own++) {
            for (int other = 0; other < 4; other++) {
                MemoryDesk desk = desk("abc");
                finish(desk, 0, own);
                if (own == other) {
                    refused("the own one", desk, STATE, () -> desk.revise(0, desk.segment(0, 2), 1));
                } else {
                    equal("another one", desk.revise(0, other, 1), 25);
                    equal("who", desk.segment(0, 9), other);
                    equal("whose it is", desk.segment(0, 2), own);
                }
            }
        }
    }

    private static void feesAreForAllWordsAndRoundedDown() {
        MemoryDesk desk = delivered("abc", 10, 37, 50);
        desk.rate(1, 9);
        desk.revise(0, 1, 1);
        equal("3 * 9 * 37 / 100 = 9.99", desk.translator(1, 1), 9);
        equal("changed by it", desk.translator(1, 4), 1);
        equal("delivered by it", desk.translator(1, 3), 0);
        MemoryDesk little = delivered("a", 10, 99, 50);
        little.rate(3, 1);
        little.revise(0, 3, 0);
        equal("1 * 1 * 99 / 100", little.translator(3, 1), 0);
        MemoryDesk together = delivered("abc", 10, 50, 50);
        together.rate(1, 5);
        together.revise(0, 1, 0);
        equal("3 * 5 * 50 / 100 = 7.5, not 3 * 2", together.translator(1, 1), 7);
    }

    private static void leastAndGreatestFees() {
        MemoryDesk none = delivered(TWELVE, 99, 0, 50);
        none.revise(0, 1, 0);
        equal("no fee", none.translator(1, 1), 0);
        MemoryDesk most = delivered(TWELVE, 10, 100, 0);
        most.rate(1, 99);
        most.revise(0, 1, 12);
        equal("the greatest fee", most.translator(1, 1), 1188);
        equal("no loss", most.segment(0, 7), 120);
    }

    private static void lossesAreRoundedDown() {
        equal("15 less 3 * 5 * 50 / 100 = 7.5", delivered("abc", 5, 30, 50).revise(0, 1, 3), 8);
        equal("5 less 1 * 5 * 19 / 100 = 0.95", delivered("a", 5, 30, 19).revise(0, 1, 1), 5);
        equal("5 less 1 * 5 * 20 / 100 = 1", delivered("a", 5, 30, 20).revise(0, 1, 1), 4);
        MemoryDesk desk = delivered("abc", 5, 30, 50);
        desk.revise(0, 1, 3);
        equal("the translator has lost as much", desk.translator(0, 1), 8);
        equal("the money of the band stays", desk.band(4, 2), 15);
    }

    private static void lossesEndAtNothing() {
        MemoryDesk just = delivered("abcd", 10, 30, 100);
        equal("just all of it", just.revise(0, 1, 4), 0);
        equal("the translator has nothing", just.translator(0, 1), 0);
        MemoryDesk more = delivered("abcd", 10, 30, 101);
        equal("a bit more", more.revise(0, 1, 4), 0);
        equal("the translator has nothing, not less", more.translator(0, 1), 0);
        MemoryDesk nearly = delivered("abcd", 10, 30, 99);
        equal("a bit less", nearly.revise(0, 1, 4), 1);
        MemoryDesk most = delivered(TWELVE, 99, 100, 200);
        equal("the greatest loss", most.revise(0, 1, 12), 0);
        equal("the translator has nothing", most.translator(0, 1), 0);
        MemoryDesk other = desk("abcd;efgh");
        other.set(1, 200);
        finish(other, 0, 0);
        finish(other, 1, 0);
        other.revise(1, 1, 4);
        equal("what others brought stays", other.translator(0, 1), 40);
        MemoryDesk free = desk("abcd");
        free.pays(4, 0);
        finish(free, 0, 0);
        equal("nothing of nothing", free.revise(0, 1, 4), 0);
        equal("the translator has nothing", free.translator(0, 1), 0);
        equal("the fee is paid", free.translator(1, 1), 12);
    }

    private static void lossesAreByTheRateOfTheDelivery() {
        MemoryDesk desk = desk("abcd");
        desk.rate(0, 20);
        desk.assign(0, 0);
        desk.rate(0, 30);
        desk.deliver(0);
        desk.rate(0, 99);
        desk.rate(1, 50);
        equal("120 less 2 * 30 * 50 / 100", desk.revise(0, 1, 2), 90);
        equal("the fee is by the rate now", desk.translator(1, 1), 60);
    }

    // ---- sources that change late

    private static void changedOpenOnesStayOpen() {
        MemoryDesk desk = at(0);
        equal("change", change(desk, 0, "cc"), 0);
        Check.equal("open", properties(desk, 0), "[2, 0, -1, 0, -1, -1, -1, 0, 0, -1, 0, 0]");
    }

    private static void changedAssignedOnesAreFixedAnew() {
        MemoryDesk desk = desk("abcd;hh");
        finish(desk, 0, 0);
        desk.assign(1, 2);
        equal("band 4", desk.segment(1, 5), 4);
        desk.pays(2, 61);
        change(desk, 1, "abce");
        Check.equal("band 2", properties(desk, 1), "[4, 1, 2, 75, 0, 2, 61, 0, 0, -1, 0, 0]");
        desk.pays(2, 5);
        change(desk, 1, "abce");
        equal("the same source fixes anew too", desk.segment(1, 6), 5);
        change(desk, 1, "gggg");
        Check.equal("band 4", properties(desk, 1), "[4, 1, 2, 0, 0, 4, 100, 0, 0, -1, 0, 0]");
    }

    private static void changedDeliveredOnesAreAssignedAgain() {
        MemoryDesk desk = at(2);
        equal("change", change(desk, 0, "abc"), 1);
        Check.equal("by its own row", properties(desk, 0), "[3, 1, 1, 100, 0, 0, 10, 0, 30, -1, 0, 0]");
        equal("the row stays", desk.count(5), 1);
        equal("the money stays", desk.translator(1, 1), 30);
        equal("assigned now", desk.translator(1, 2), 1);
        equal("delivered again", desk.deliver(0), 3);
        equal("earlier pay", desk.segment(0, 8), 30);
    }

    private static void changedRevisedOnesAreAssignedAgain() {
        MemoryDesk desk = at(3);
        equal("change", change(desk, 0, "a"), 1);
        Check.equal("no reviser", properties(desk, 0), "[1, 1, 1, 50, 0, 3, 80, 0, 25, -1, 0, 0]");
        equal("its translator has what is left", desk.translator(1, 1), 25);
        equal("the reviser keeps the fee", desk.translator(2, 1), 9);
        equal("delivered again", desk.deliver(0), 8);
        equal("and revised again", desk.revise(0, 3, 1), 3);
        equal("earlier pay stays", desk.segment(0, 8), 25);
        equal("all in all", desk.translator(1, 1), 28);
    }

    private static void earlierPayAddsUp() {
        MemoryDesk desk = at(2);
        int sum = 0;
        for (int i = 0; i < 5; i++) {
            sum += desk.segment(0, 7);
            change(desk, 0, "hgfed".substring(i));
            equal("the pay is 0", desk.segment(0, 7), 0);
            equal("earlier pay", desk.segment(0, 8), sum);
            desk.deliver(0);
            equal("earned", desk.translator(1, 1), sum + desk.segment(0, 7));
        }
        change(desk, 0, "a");
        sum = desk.segment(0, 8);
        change(desk, 0, "b");
        equal("nothing new is added", desk.segment(0, 8), sum);
    }

    // ---- terms

    private static void proposalsAreZeroToNineOrNone() {
        for (int translator = 0; translator < 4; translator++) {
            MemoryDesk desk = new MemoryDesk();
            equal("none at first", desk.term(3, translator), NONE);
            equal("0", desk.propose(3, translator, 0), NONE);
            equal("is there", desk.term(3, translator), 0);
            equal("9", desk.propose(3, translator, 9), 0);
            equal("is there", desk.term(3, translator), 9);
            equal("NONE", desk.propose(3, translator, NONE), 9);
            equal("is none", desk.term(3, translator), NONE);
            equal("proposals", desk.translator(translator, 6), 0);
        }
    }

    private static MemoryDesk proposing(int... proposals) {
        MemoryDesk desk = new MemoryDesk();
        for (int translator = 0; translator < proposals.length; translator++) {
            desk.propose(5, translator, proposals[translator]);
        }
        return desk;
    }

    private static void dispute(int due, int unlike, int... proposals) {
        MemoryDesk desk = proposing(proposals);
        equal("disputed", desk.term(5, 5), due);
        equal("unlike proposals", desk.term(5, 6), unlike);
        equal("disputed words", desk.count(9), due);
        equal("other words", desk.term(4, 5) + desk.term(6, 5), 0);
    }

    private static void disputesNeedTwoUnlikeProposals() {
        dispute(0, 0);
        dispute(0, 1, 0);
        dispute(0, 1, NONE, NONE, NONE, 9);
        dispute(0, 1, 4, 4);
        dispute(0, 1, 0, NONE, NONE, 0);
        dispute(0, 1, 9, 9, 9, 9);
        dispute(1, 2, 0, 1);
        dispute(1, 2, 0, NONE, NONE, 9);
        dispute(1, 2, 9, 9, 9, 0);
        dispute(1, 2, 3, 4, 3, 4);
        dispute(1, 3, 0, 1, 2, NONE);
        dispute(1, 4, 0, 3, 6, 9);
        MemoryDesk desk = proposing(1, 2);
        desk.propose(5, 1, NONE);
        equal("taken back", desk.term(5, 5), 0);
        desk.propose(5, 1, 2);
        desk.propose(5, 0, 2);
        equal("agreed", desk.term(5, 5), 0);
    }

    private static void rulingsEndDisputes() {
        MemoryDesk desk = proposing(1, 2, NONE, 2);
        equal("others", desk.rule(5, 1), 2);
        equal("not disputed", desk.term(5, 5), 0);
        equal("disputed words", desk.count(9), 0);
        equal("ruled words", desk.count(10), 1);
        equal("unlike proposals stay", desk.term(5, 6), 2);
        equal("the ruling", desk.term(5, 4), 1);
    }

    private static MemoryDesk ruled() {
        MemoryDesk desk = proposing(1, 2);
        desk.rule(5, 1);
        return desk;
    }

    private static void wordsAreRuledOnce() {
        Twins.refused("the same ruling again", TermsBoundaryTest::ruled, STATE, d -> d.rule(5, 1));
        Twins.refused("another ruling", TermsBoundaryTest::ruled, STATE, d -> d.rule(5, 2));
        Twins.refused("what nobody has", TermsBoundaryTest::ruled, STATE, d -> d.rule(5, 3));
        MemoryDesk desk = ruled();
        desk.propose(4, 0, 1);
        equal("another word", desk.rule(4, 1), 0);
        equal("ruled words", desk.count(10), 2);
    }

    private static void rulingsNeedAProposalThatSomebodyHas() {
        for (int translator = 0; translator < 4; translator++) {
            MemoryDesk desk = new MemoryDesk();
            desk.propose(0, translator, 9);
            equal("somebody has it", desk.rule(0, 9), 0);
        }
        Twins.refused("no proposals", MemoryDesk::new, STATE, d -> d.rule(5, 0));
        Twins.refused("another proposal", () -> proposing(1, 3), STATE, d -> d.rule(5, 2));
        Twins.refused("for another word", () -> proposing(1, 3), STATE, d -> d.rule(4, 1));
        Twins.refused("one that was taken back", () -> {
            MemoryDesk desk = proposing(1, 3);
            desk.propose(5, 1, NONE);
            return desk;
        }, STATE, d -> d.rule(5, 3));
        Twins.refused("one that was replaced", () -> {
            MemoryDesk desk = proposing(1, 3);
            desk.propose(5, 1, 4);
            return desk;
        }, STATE, d -> d.rule(5, 3));
    }

    /** "no proposals for it can be made then (those that there are stay)" */
    private static void proposalsStayBehindARuling() {
        for (int proposal : new int[] {0, 1, 2, 9, NONE}) {
            for (int translator = 0; translator < 4; translator++) {
                int who = translator;
                Twins.refused("propose(5, " + who + ", " + proposal + ")", TermsBoundaryTest::ruled, STATE,
                        d -> d.propose(5, who, proposal));
            }
        }
        Check.equal("they stay", propertiesOfTerm(ruled(), 5), "[1, 2, -1, -1, 1, 0, 2, 0]");
        equal("and count", ruled().translator(1, 6), 1);
    }

    private static void settingsAtFirstAndAtTheirEdges() {
        MemoryDesk desk = new MemoryDesk();
        equal("0 at first", desk.setting(0), 30);
        equal("1 at first", desk.setting(1), 50);
        equal("0 to its least", desk.set(0, 0), 30);
        equal("0 to its greatest", desk.set(0, 100), 0);
        equal("1 to its least", desk.set(1, 0), 50);
        equal("1 to its greatest", desk.set(1, 200), 0);
        equal("0", desk.setting(0), 100);
        equal("1", desk.setting(1), 200);
    }

    // ---- input text

    private static final String SIXTY = TWELVE + ";" + TWELVE + ";" + TWELVE + ";" + TWELVE + ";hgfedcba";

    private static void bufferHasSixtyCharacters() {
        equal("59 and one", typed(SIXTY.substring(0, 59)).append('h'), 60);
        for (int code : new int[] {33, ';', 'a', 126}) {
            Twins.refused("60 and " + code, () -> typed(SIXTY), STATE, d -> d.append(code));
        }
        MemoryDesk desk = typed(SIXTY);
        equal("no error in 60", desk.firstError(), 60);
        equal("five segments of 60", desk.add(), 5);
        Check.equal("the last one", wordsOf(desk, 4), "hgfedcba");
        equal("there is room again", desk.append('a'), 1);
        MemoryDesk cleared = typed(SIXTY);
        equal("cleared", cleared.clearBuffer(), 60);
        equal("there is room again", cleared.append('a'), 1);
        MemoryDesk turned = typed(SIXTY.substring(0, 59) + "!");
        equal("an error at the last place", turned.firstError(), 59);
    }

    /** After nothing, after a word, after a twelfth word and after a semicolon. */
    private static void everyCharacterCode() {
        for (int code = 33; code <= 126; code++) {
            boolean letter = code >= 'a' && code <= 'h';
            firstError("", code, letter);
            firstError("a", code, letter || code == ';');
            firstError("abcdefghabc", code, letter || code == ';');
            firstError(TWELVE, code, code == ';');
            firstError("a;", code, letter);
            firstError(TWELVE + ";", code, letter);
        }
    }

    private static void firstError(String before, int code, boolean fits) {
        MemoryDesk desk = typed(before);
        desk.append(code);
        equal("firstError of " + before + (char) code, desk.firstError(), before.length() + (fits ? 1 : 0));
    }

    private static void syntaxErrorsBehindEachBeginning() {
        String[] texts = {"!", "a!", "a;!", "ab;cd!e;f", ";a", "a;;", TWELVE + "a", "a;" + TWELVE + "a;;",
            "AB", "a,b", "a b".replace(' ', '.')};
        int[] due = {0, 1, 2, 5, 0, 2, 12, 14, 0, 1, 1};
        for (int i = 0; i < texts.length; i++) {
            MemoryDesk desk = typed(texts[i]);
            equal("firstError of " + texts[i], desk.firstError(), due[i]);
            equal("and again", desk.firstError(), due[i]);
            equal("the buffer stays", desk.clearBuffer(), texts[i].length());
            equal("firstError of nothing", desk.firstError(), 0);
        }
    }

    /** "if no row of segments, of any length": eleven segments are no syntax error. */
    private static void rowsOfSegmentsOfAnyLength() {
        String thirty = TEN + ";" + TEN + ";" + TEN;
        equal("thirty segments", typed(thirty).firstError(), thirty.length());
        equal("thirty and a semicolon", typed(thirty + ";").firstError(), 60);
        equal("with ten there already", deskAnd(TEN, "a;b").firstError(), 3);
    }

    private static void trailingSemicolonsAreNoErrorsButNotComplete() {
        equal("a;", typed("a;").firstError(), 2);
        Twins.refused("add of a;", () -> typed("a;"), ARGUMENT, d -> d.add());
        equal("nothing", typed("").firstError(), 0);
        Twins.refused("add of nothing", () -> typed(""), ARGUMENT, d -> d.add());
        String sixty = SIXTY.substring(0, 59) + ";";
        equal("60 with a semicolon", typed(sixty).firstError(), 60);
        Twins.refused("add of it", () -> typed(sixty), ARGUMENT, d -> d.add());
    }

    // ---- undo

    private static void saves(String what, MemoryDesk desk, int due, Twins.Use use) {
        desk.clearBuffer();
        int before = desk.count(11);
        use.on(desk);
        equal(what + ": states", desk.count(11), before + due);
    }

    private static void eachUndoableCallSaves() {
        saves("rate", at(0), 1, d -> d.rate(0, 20));
        saves("pays", at(0), 1, d -> d.pays(0, 20));
        saves("set", at(0), 1, d -> d.set(0, 20));
        saves("assign", at(0), 1, d -> d.assign(0, 2));
        saves("deliver", at(1), 1, d -> d.deliver(0));
        saves("revise", at(2), 1, d -> d.revise(0, 0, 1));
        saves("propose", at(0), 1, d -> d.propose(0, 0, 1));
        saves("rule", proposing(1, 2), 1, d -> d.rule(5, 1));
        saves("change", at(3), 1, d -> change(d, 0, "g"));
        saves("add of three", at(0), 1, d -> {
            type(d, "a;b;c");
            return d.add();
        });
    }

    private static void undoableCallsSaveIfTheyChangeNothing() {
        saves("rate", at(0), 1, d -> d.rate(0, 10));
        saves("pays", at(0), 1, d -> d.pays(4, 100));
        saves("set", at(0), 1, d -> d.set(1, 50));
        saves("propose", at(0), 1, d -> d.propose(0, 0, NONE));
        saves("change", at(0), 1, d -> change(d, 0, "abc"));
        MemoryDesk desk = new MemoryDesk();
        desk.rate(0, 20);
        desk.rate(0, 20);
        desk.undo();
        equal("such a state is undone alone", desk.translator(0, 0), 20);
        desk.undo();
        equal("and then the other one", desk.translator(0, 0), 10);
    }

    private static void otherCallsSaveNothing() {
        saves("append", at(0), 0, d -> d.append('a'));
        saves("clearBuffer", at(0), 0, d -> d.clearBuffer());
        saves("firstError", at(0), 0, d -> d.firstError());
        saves("undo", at(2), -1, d -> d.undo());
        saves("looks", at(2), 0, d -> d.segment(0, 0) + d.word(0, 0) + d.remembered(0, 0)
                + d.translator(0, 0) + d.term(0, 0) + d.band(0, 0) + d.count(0) + d.setting(0));
        saves("what would be", at(2), 0, d -> d.near(0, 0, 0) + d.common(0, 1, 0) + d.ifPaid(0, 0)
                + d.saved() + d.wordCost() + d.digest());
        saves("orderMatters", at(0), 0, d -> d.orderMatters(0, 1));
    }

    private static void sixStatesAreSavedAndTheOldestIsDropped() {
        for (int calls = 0; calls <= 13; calls++) {
            MemoryDesk desk = new MemoryDesk();
            for (int i = 1; i <= calls; i++) {
                equal("rate", desk.rate(2, 10 + i), 9 + i);
            }
            int states = Math.min(calls, 6);
            equal("states", desk.count(11), states);
            for (int left = states - 1; left >= 0; left--) {
                equal("undo", desk.undo(), left);
                equal("the rate", desk.translator(2, 0), 10 + calls - states + left);
            }
            refused("undo of nothing", desk, STATE, () -> desk.undo());
            equal("the rate stays", desk.translator(2, 0), 10 + calls - states);
        }
    }

    private static void undoLeavesTheBuffer() {
        MemoryDesk desk = desk("ab");
        type(desk, "cd;!");
        equal("undo", desk.undo(), 0);
        equal("no segments", desk.count(0), 0);
        equal("the buffer", desk.firstError(), 3);
        equal("its length", desk.clearBuffer(), 4);
        MemoryDesk empty = desk("ab");
        empty.undo();
        equal("what add cleared stays cleared", empty.clearBuffer(), 0);
        MemoryDesk changed = desk("ab");
        change(changed, 0, "cd");
        changed.undo();
        Check.equal("the source is back", wordsOf(changed, 0), "ab");
        equal("what change cleared stays cleared", changed.clearBuffer(), 0);
        MemoryDesk full = desk("ab");
        type(full, SIXTY);
        full.undo();
        equal("a full buffer", full.clearBuffer(), 60);
    }

    private static void undoTakesSegmentsAwayAndAddsThemAnew() {
        MemoryDesk desk = desk("ab;cd");
        finish(desk, 1, 2);
        desk.undo();
        desk.undo();
        desk.undo();
        refused("segment 0", desk, INDEX, () -> desk.segment(0, 0));
        equal("no rows", desk.count(5), 0);
        type(desk, "efg");
        equal("add", desk.add(), 1);
        Check.equal("a new one", properties(desk, 0), "[3, 0, -1, 0, -1, -1, -1, 0, 0, -1, 0, 0]");
        refused("segment 1", desk, INDEX, () -> desk.word(1, 0));
        type(desk, "h");
        desk.add();
        Check.equal("a new one", properties(desk, 1), "[1, 0, -1, 0, -1, -1, -1, 0, 0, -1, 0, 0]");
    }

    private static void undoTakesRulingsBack() {
        MemoryDesk desk = ruled();
        desk.undo();
        equal("not ruled", desk.term(5, 4), NONE);
        equal("disputed again", desk.term(5, 5), 1);
        equal("a proposal can be made", desk.propose(5, 3, 7), NONE);
        equal("and the word be ruled", desk.rule(5, 7), 2);
    }

    /** Saved states are dropped and taken back in turns, more often than there are places for them. */
    private static void savedStatesAreUsedAroundAndAround() {
        MemoryDesk desk = new MemoryDesk();
        ArrayDeque<Integer> saved = new ArrayDeque<>();
        int rate = 10;
        for (int call = 0; call < 130; call++) {
            if (call % 17 < 9 || saved.isEmpty()) {
                saved.addLast(rate);
                rate = 1 + call % 99;
                desk.rate(1, rate);
                if (saved.size() > 6) {
                    saved.removeFirst();
                }
            } else {
                rate = saved.removeLast();
                equal("call " + call + ": undo", desk.undo(), saved.size());
            }
            equal("call " + call + ": the rate", desk.translator(1, 0), rate);
            equal("call " + call + ": states", desk.count(11), saved.size());
        }
    }
}
