import java.util.function.Supplier;

/**
 * The edges that the document names of proofs and of promises 11 to 21: for each sentence a test of
 * its own, on the last value that is allowed and on the first that is not.
 */
public final class ProofEdgesTest extends Checks {
    private static final String[] FORMULAS = {"a", "b", "a&b", "a|b", "a>b", "#", "-a", "--a", "b&a", "b|a", "a&a", "a|a",
        "b>a", "-b", "a>a", "b>b", "-#", "#>#", "a>b|a", "b>b|a", "b|b", "a&-a", "-(a&-a)", "a&-a>#"};
    private static final int A = 0;
    private static final int B = 1;
    private static final int AND = 2;
    private static final int OR = 3;
    private static final int THEN = 4;
    private static final int NO = 5;
    private static final int NOT = 6;
    private static final int NOTNOT = 7;
    private static final int BANDA = 8;
    private static final int BORA = 9;
    private static final int AANDA = 10;
    private static final int AORA = 11;
    private static final int BTHENA = 12;
    private static final int NOTB = 13;
    private static final int ATHENA = 14;
    private static final int BTHENB = 15;
    private static final int NOTNO = 16;
    private static final int NOTHENNO = 17;
    private static final int BORB = 20;
    private static final int CLASH = 21;
    private static final int NOCLASH = 22;
    /** References that no line, box or theorem can have. */
    private static final int[] NOWHERE = {-1, 60, MIN, MAX};

    public static void main(String[] args) {
        beginTellsHowManyLines();
        beginTakesLinesAndBoxesAlone();
        premisesAreAtMostTwo();
        premisesStandAheadOfOtherLines();
        rangesOfPremise();
        sixBoxesAreOpenAtMost();
        assumeFillsTo60();
        rangesOfAssume();
        assumptionsAreInTheirBoxes();
        closeWithoutAnOpenBox();
        closeTakesTheBoxOpenedLast();
        lastLineIsInNoBoxWithin();
        rangesOfStep();
        stepFillsTo60();
        orderOfTheExceptionsOfStep();
        linesThatCanBeReferredTo();
        boxesThatCanBeReferredTo();
        ruleAgain();
        ruleAnd();
        ruleFirstOfAnd();
        ruleSecondOfAnd();
        ruleFirstOfOr();
        ruleSecondOfOr();
        ruleCases();
        ruleThen();
        ruleUseOfThen();
        ruleNot();
        ruleFalse();
        ruleAnything();
        ruleNotNot();
        ruleTheoremWithoutPremises();
        ruleTheoremWithPremises();
        ruleTheoremAllAtOnce();
        ruleTheoremLetters();
        theSmallestRefusal();
        whatIsNotNeededIsKeptAs0();
        undoWithoutAnythingDone();
        undoTakesBackAllThatWasDone();
        undoTakesBackTheLatest();
        undoKnowsNothingOfRefusedCalls();
        undoOfThisProofAlone();
        rangesOfCount();
        mostThatCountTells();
        rangesOfLine();
        whatLineTells();
        neededWithoutLines();
        neededAreTheLatestAndItsReferences();
        neededOfBoxes();
        neededOfAllReferences();
        neededOfTheorems();
        rangesOfBox();
        whatBoxTells();
        rangesOfFails();
        noLineFails();
        failsTakesAllBoxesAndPremises();
        rangesOfHint();
        hintOfEachRule();
        hintNeverTellsATheorem();
        hintTellsTheLeastRule();
        hintTellsTheLeastReferences();
        hintAt60Lines();
        hintKeepsToWhatCanBeReferredTo();
        finish("the edges of proofs");
    }

    /** The formulas above, each with the number of its place. */
    private static ProofDesk desk() {
        ProofDesk x = new ProofDesk();
        for (int k = 0; k < FORMULAS.length; k++) {
            due("read " + FORMULAS[k], read(x, FORMULAS[k]), k);
        }
        return x;
    }

    /** 8 lines that can all be referred to, in 6 open boxes: a&b, a|b, a>b, #, -a, --a, a, b. */
    private static ProofDesk open() {
        ProofDesk x = desk();
        x.premise(AND);
        x.premise(OR);
        for (int f : new int[] {THEN, NO, NOT, NOTNOT, A, B}) {
            x.assume(f);
        }
        return x;
    }

    /**
     * Lines 0 a|b and 1 b|b, and closed boxes: 0 from a to b|a, 1 from b to b|a, 2 b alone, 3 #
     * alone, 4 from a&-a to #. The line 12 opens the box 5, in which 6 is closed: from b to b.
     */
    private static ProofDesk boxes() {
        ProofDesk x = desk();
        x.premise(OR);
        x.premise(BORB);
        x.assume(A);
        x.step(5, BORA, 2, 0, 0);
        x.close();
        x.assume(B);
        x.step(4, BORA, 4, 0, 0);
        x.close();
        x.assume(B);
        x.close();
        x.assume(NO);
        x.close();
        x.assume(CLASH);
        x.step(2, A, 8, 0, 0);
        x.step(3, NOT, 8, 0, 0);
        x.step(10, NO, 9, 10, 0);
        x.close();
        x.assume(A);
        x.assume(B);
        x.step(0, B, 13, 0, 0);
        x.close();
        due("lines", x.count(3), 15);
        due("boxes", x.count(4), 7);
        return x;
    }

    /**
     * The theorems 0: a>a; 1: a / a|a; 2: a, a>b / b; 3: a, b / b; 4: a&b / b&a; and the lines 0
     * a>b, 1 a, 2 b (in an open box), 3 a&b (in a closed one).
     */
    private static ProofDesk theorems() {
        ProofDesk x = desk();
        x.assume(A);
        x.close();
        x.step(7, ATHENA, 0, 0, 0);
        x.end();
        x.premise(A);
        x.step(4, AORA, 0, 0, 0);
        x.end();
        x.premise(A);
        x.premise(THEN);
        x.step(8, B, 1, 0, 0);
        x.end();
        x.premise(A);
        x.premise(B);
        x.end();
        x.premise(AND);
        x.step(2, A, 0, 0, 0);
        x.step(3, B, 0, 0, 0);
        x.step(1, BANDA, 2, 1, 0);
        due("theorem 4", x.end(), 4);
        x.premise(THEN);
        x.premise(A);
        x.assume(B);
        x.assume(AND);
        x.close();
        return x;
    }

    /** Each row on a desk of its own: why, rule, f, a, b, c. */
    private static void refusedEach(Supplier<ProofDesk> of, int[]... rows) {
        for (int[] row : rows) {
            refused(of.get(), row[0], row[1], row[2], row[3], row[4], row[5]);
        }
    }

    /** Each row on a desk of its own: rule, f, a, b, c, and the references that are kept. */
    private static void acceptedEach(Supplier<ProofDesk> of, int[]... rows) {
        for (int[] row : rows) {
            accepted(of.get(), row[0], row[1], row[2], row[3], row[4], row[5], row[6], row[7]);
        }
    }

    private static ProofDesk sixty() {
        ProofDesk x = desk();
        x.premise(A);
        for (int k = 1; k < 60; k++) {
            x.step(0, A, k - 1, 0, 0);
        }
        return x;
    }

    private static void beginTellsHowManyLines() {
        part = "11: returns how many lines there were";
        ProofDesk x = desk();
        due("without lines", x.begin(), 0);
        x.premise(A);
        due("one line", x.begin(), 1);
        due("again", x.begin(), 0);
        due("60 lines", sixty().begin(), 60);
    }

    private static void beginTakesLinesAndBoxesAlone() {
        part = "11: all lines and boxes are gone";
        ProofDesk x = theorems();
        x.begin();
        x.write(OR);
        tape(x, "a?");
        x.read();
        tape(x, "b");
        long before = x.digest();
        x.premise(A);
        x.premise(B);
        x.assume(A);
        x.assume(B);
        x.close();
        due("lines", x.begin(), 4);
        due("digest", x.digest(), before);
        due("errorAt", x.errorAt(), 1);
        thrown("a line", x, INDEX, () -> x.line(0, 0));
        thrown("a box", x, INDEX, () -> x.box(0, 0));
        thrown("a box that is open", x, STATE, x::close);
        thrown("something done", x, STATE, x::undo);
        thrown("something to end", x, STATE, x::end);
        due("two premises again", x.premise(B), 0);
        due("two premises again", x.premise(B), 1);
        due("line 2", x.assume(A), 2);
        due("in box 0", x.line(2, 5), 0);
        due("the tape", x.read(), B);
    }

    private static void premisesAreAtMostTwo() {
        part = "12: a theorem has at most 2 premises";
        ProofDesk x = desk();
        due("the first", x.premise(A), 0);
        due("the second", x.premise(A), 1);
        thrown("the third", x, STATE, () -> x.premise(A));
        x.undo();
        due("the second, another one", x.premise(B), 1);
        thrown("the third", x, STATE, () -> x.premise(B));
        due("premises", x.count(6), 2);
        lineIs(x, 1, B, 15, 0, 0, 0, -1, 1, 1);
    }

    private static void premisesStandAheadOfOtherLines() {
        part = "12: throws if there is a line that is no premise";
        ProofDesk x = desk();
        x.assume(A);
        thrown("behind an assumption", x, STATE, () -> x.premise(A));
        x.close();
        thrown("behind a box", x, STATE, () -> x.premise(A));
        x.undo();
        x.undo();
        due("without it", x.premise(A), 0);
        x.step(0, A, 0, 0, 0);
        thrown("behind a step", x, STATE, () -> x.premise(A));
        x.undo();
        due("without it", x.premise(B), 1);
        ProofDesk y = theorems();
        y.begin();
        y.step(13, BTHENB, 0, 0, 0);
        thrown("behind a theorem", y, STATE, () -> y.premise(A));
    }

    private static void rangesOfPremise() {
        part = "12: there is such a formula";
        ProofDesk x = new ProofDesk();
        thrown("formula 0 of none", x, INDEX, () -> x.premise(0));
        x.make(0, 0, 0);
        for (int bad : new int[] {-1, 1, MIN, MAX}) {
            thrown("formula " + bad, x, INDEX, () -> x.premise(bad));
        }
        due("formula 0 of one", x.premise(0), 0);
        x.premise(0);
        thrown("the formula goes ahead of 2 premises", x, INDEX, () -> x.premise(1));
        ProofDesk y = full();
        due("formula 239", y.premise(239), 0);
        thrown("formula 240", y, INDEX, () -> y.premise(240));
        y.step(0, 239, 0, 0, 0);
        thrown("the formula goes ahead of the step", y, INDEX, () -> y.premise(240));
    }

    private static void sixBoxesAreOpenAtMost() {
        part = "13: at most 6 are open at a time";
        ProofDesk x = desk();
        for (int k = 0; k < 6; k++) {
            due("box " + k, x.assume(B), k);
        }
        thrown("a seventh", x, STATE, () -> x.assume(B));
        due("open boxes", x.count(5), 6);
        due("one is closed", x.close(), 5);
        due("another one", x.assume(A), 6);
        thrown("a seventh", x, STATE, () -> x.assume(B));
        x.undo();
        due("another one", x.assume(A), 6);
        thrown("a seventh", x, STATE, () -> x.assume(B));
        for (int k = 0; k < 6; k++) {
            x.close();
        }
        due("line 7 in no other box", x.box(6, 2), 4);
        due("a new one", x.assume(A), 7);
        due("around it", x.box(7, 2), -1);
    }

    private static void assumeFillsTo60() {
        part = "13: a row of at most 60 lines";
        ProofDesk x = sixty();
        thrown("line 60", x, STATE, () -> x.assume(A));
        x.undo();
        due("line 59", x.assume(A), 59);
        thrown("line 60", x, STATE, () -> x.assume(A));
        x.close();
        thrown("line 60 with no box open", x, STATE, () -> x.assume(A));
        ProofDesk y = desk();
        for (int k = 0; k < 60; k++) {
            due("line " + k, y.assume(A), k);
            due("box " + k, y.close(), k);
        }
        thrown("line 60 and box 60", y, STATE, () -> y.assume(A));
        due("boxes", y.count(4), 60);
    }

    private static void rangesOfAssume() {
        part = "13: there is such a formula";
        ProofDesk x = new ProofDesk();
        thrown("formula 0 of none", x, INDEX, () -> x.assume(0));
        x.make(0, 0, 0);
        for (int bad : new int[] {-1, 1, MIN, MAX}) {
            thrown("formula " + bad, x, INDEX, () -> x.assume(bad));
        }
        for (int k = 0; k < 6; k++) {
            due("formula 0 of one", x.assume(0), k);
        }
        thrown("the formula goes ahead of 6 boxes", x, INDEX, () -> x.assume(1));
        ProofDesk y = full();
        due("formula 239", y.assume(239), 0);
        thrown("formula 240", y, INDEX, () -> y.assume(240));
        ProofDesk z = sixty();
        thrown("the formula goes ahead of 60 lines", z, INDEX, () -> z.assume(FORMULAS.length));
    }

    private static void assumptionsAreInTheirBoxes() {
        part = "13: a box begins with the line of its assumption";
        ProofDesk x = desk();
        x.premise(A);
        x.assume(OR);
        lineIs(x, 1, OR, 14, 0, 0, 0, 0, 1, 1);
        due("its first line", x.box(0, 0), 1);
        x.assume(NO);
        lineIs(x, 2, NO, 14, 0, 0, 0, 1, 1, 1);
        due("its first line", x.box(1, 0), 2);
        due("the box around it", x.box(1, 2), 0);
        due("the box around the first", x.box(0, 2), -1);
    }

    private static void closeWithoutAnOpenBox() {
        part = "14: throws if none is open";
        ProofDesk x = desk();
        thrown("without boxes", x, STATE, x::close);
        x.premise(A);
        thrown("without boxes", x, STATE, x::close);
        x.assume(A);
        due("one", x.close(), 0);
        thrown("none is left", x, STATE, x::close);
        x.undo();
        due("open again", x.close(), 0);
        x.undo();
        x.undo();
        thrown("gone again", x, STATE, x::close);
    }

    private static void closeTakesTheBoxOpenedLast() {
        part = "14: closes the box that was opened last of those that are open";
        ProofDesk x = desk();
        for (int k = 0; k < 6; k++) {
            x.assume(A);
        }
        due("the last", x.close(), 5);
        due("the one around it", x.close(), 4);
        x.assume(B);
        due("a new one", x.close(), 6);
        for (int k = 3; k >= 0; k--) {
            due("the next around it", x.close(), k);
        }
        due("open boxes", x.count(5), 0);
        due("boxes", x.count(4), 7);
    }

    private static void lastLineIsInNoBoxWithin() {
        part = "when it is closed, its last line is the latest one that is in it and in no box within it";
        ProofDesk x = desk();
        x.assume(A);
        x.assume(B);
        x.step(0, A, 0, 0, 0);
        x.step(0, B, 1, 0, 0);
        due("open", x.box(1, 1), -1);
        x.close();
        due("the inner one", x.box(1, 1), 3);
        x.assume(B);
        x.close();
        due("its assumption alone", x.box(2, 1), 4);
        x.close();
        due("the outer one", x.box(0, 1), 0);
        x.undo();
        due("open again", x.box(0, 1), -1);
        x.step(0, A, 0, 0, 0);
        x.close();
        due("behind the boxes within it", x.box(0, 1), 5);
    }

    private static void rangesOfStep() {
        part = "15: rule is 0 to 13, there is such a formula";
        ProofDesk x = new ProofDesk();
        thrown("formula 0 of none", x, INDEX, () -> x.step(0, 0, 0, 0, 0));
        x.make(0, 0, 0);
        refused(x, 1, 0, 0, 0, 0, 0);
        refused(x, 1, 13, 0, 0, 0, 0);
        x.premise(0);
        for (int bad : new int[] {-1, 14, 15, 16, MIN, MAX}) {
            thrown("rule " + bad, x, ARGUMENT, () -> x.step(bad, 0, 0, 0, 0));
        }
        for (int bad : new int[] {-1, 1, MIN, MAX}) {
            thrown("formula " + bad, x, INDEX, () -> x.step(0, bad, 0, 0, 0));
        }
        due("rule 0, formula 0", x.step(0, 0, 0, 0, 0), 0);
        ProofDesk y = full();
        y.premise(239);
        due("formula 239", y.step(0, 239, 0, 0, 0), 0);
        thrown("formula 240", y, INDEX, () -> y.step(0, 240, 0, 0, 0));
    }

    private static void stepFillsTo60() {
        part = "15: throws if there are 60 lines";
        ProofDesk x = sixty();
        due("lines", x.count(3), 60);
        thrown("line 60", x, STATE, () -> x.step(0, A, 59, 0, 0));
        thrown("line 60 that would be refused", x, STATE, () -> x.step(0, A, 60, 0, 0));
        thrown("line 60 that would be refused", x, STATE, () -> x.step(2, A, 0, 0, 0));
        x.undo();
        refused(x, 3, 0, B, 0, 0, 0);
        due("line 59", x.step(0, A, 58, 0, 0), 0);
        thrown("line 60", x, STATE, () -> x.step(0, A, 59, 0, 0));
    }

    private static void orderOfTheExceptionsOfStep() {
        part = "15: the exception that is named first";
        ProofDesk x = sixty();
        int none = FORMULAS.length;
        thrown("rule, formula and lines", x, ARGUMENT, () -> x.step(14, none, 0, 0, 0));
        thrown("rule and lines", x, ARGUMENT, () -> x.step(-1, A, 0, 0, 0));
        thrown("formula and lines", x, INDEX, () -> x.step(13, none, 0, 0, 0));
        thrown("lines", x, STATE, () -> x.step(13, A, 0, 0, 0));
        ProofDesk y = desk();
        thrown("rule and formula", y, ARGUMENT, () -> y.step(14, none, 0, 0, 0));
        thrown("formula and reference", y, INDEX, () -> y.step(0, none, 7, 0, 0));
    }

    /** A y for each line that can be referred to, an n for each other one. */
    private static void linesAre(ProofDesk x, String seen) {
        for (int k = 0; k < seen.length(); k++) {
            int line = k;
            boolean can = seen.charAt(k) == 'y';
            int f = x.line(line, 0);
            due("line(" + k + ", 6)", x.line(k, 6), can ? 1 : 0);
            if (can) {
                accepted(x, 0, f, k, 0, 0, k, 0, 0);
            } else {
                keeps("step", x, () -> due("step to line " + line, x.step(0, f, line, 0, 0), 1));
            }
        }
    }

    private static void linesThatCanBeReferredTo() {
        part = "a line can be referred to, if it is in no box, or all boxes in which it is are open";
        ProofDesk x = desk();
        x.premise(A);
        x.assume(A);
        x.assume(B);
        x.step(0, B, 2, 0, 0);
        linesAre(x, "yyyy");
        x.close();
        linesAre(x, "yynn");
        x.assume(A);
        x.assume(B);
        linesAre(x, "yynnyy");
        x.close();
        x.close();
        ProofDesk y = desk();
        y.premise(A);
        y.assume(A);
        y.assume(B);
        y.close();
        y.assume(A);
        y.assume(B);
        y.close();
        y.step(0, A, 3, 0, 0);
        linesAre(y, "yynyny");
        y.close();
        linesAre(y, "yynnnn");
        y.close();
        linesAre(y, "ynnnnn");
    }

    /** Likewise for boxes that begin and end with a. */
    private static void boxesAre(ProofDesk x, String seen) {
        for (int k = 0; k < seen.length(); k++) {
            int box = k;
            boolean can = seen.charAt(k) == 'y';
            due("box(" + k + ", 3)", x.box(k, 3), can ? 1 : 0);
            if (can) {
                accepted(x, 7, ATHENA, k, 0, 0, k, 0, 0);
            } else {
                keeps("step", x, () -> due("step to box " + box, x.step(7, ATHENA, box, 0, 0), 1));
            }
        }
    }

    private static void boxesThatCanBeReferredTo() {
        part = "a box can be referred to, if it is closed, and all boxes in which it is are open";
        ProofDesk x = desk();
        x.assume(A);
        x.assume(A);
        boxesAre(x, "nn");
        x.close();
        boxesAre(x, "ny");
        x.assume(A);
        x.assume(A);
        x.close();
        boxesAre(x, "nyny");
        x.close();
        boxesAre(x, "nyyn");
        x.close();
        boxesAre(x, "ynnn");
    }

    private static void ruleAgain() {
        part = "rule 0: line a has this formula";
        int[] lines = {AND, OR, THEN, NO, NOT, NOTNOT, A, B};
        for (int k = 0; k < 8; k++) {
            acceptedEach(ProofEdgesTest::open, new int[] {0, lines[k], k, 0, 0, k, 0, 0});
            refusedEach(ProofEdgesTest::open, new int[] {3, 0, lines[(k + 1) % 8], k, 0, 0});
        }
        refusedEach(ProofEdgesTest::open, new int[][] {{1, 0, B, 8, 0, 0}, {1, 0, A, -1, 0, 0}, {1, 0, A, MIN, 0, 0},
            {1, 0, A, MAX, 0, 0}});
    }

    private static void ruleAnd() {
        part = "rule 1: lines a and b have f and g, this one is f & g";
        acceptedEach(ProofEdgesTest::open, new int[][] {{1, AND, 6, 7, 0, 6, 7, 0}, {1, BANDA, 7, 6, 0, 7, 6, 0},
            {1, AANDA, 6, 6, 0, 6, 6, 0}, {1, CLASH, 6, 4, 0, 6, 4, 0}});
        refusedEach(ProofEdgesTest::open, new int[][] {{3, 1, AND, 7, 6, 0}, {3, 1, BANDA, 6, 7, 0}, {3, 1, AND, 6, 6, 0},
            {3, 1, AND, 7, 7, 0}, {3, 1, OR, 6, 7, 0}, {3, 1, THEN, 6, 7, 0}, {3, 1, A, 6, 7, 0}, {3, 1, NOT, 6, 7, 0},
            {1, 1, AND, 8, 7, 0}, {1, 1, AND, 6, 8, 0}, {1, 1, AND, -1, 7, 0}, {1, 1, AND, 6, -1, 0},
            {1, 1, AND, MIN, 7, 0}, {1, 1, AND, 6, MAX, 0}});
    }

    private static void ruleFirstOfAnd() {
        part = "rule 2: line a has f & g, this one is f";
        acceptedEach(ProofEdgesTest::open, new int[] {2, A, 0, 0, 0, 0, 0, 0});
        refusedEach(ProofEdgesTest::open, new int[][] {{3, 2, B, 0, 0, 0}, {3, 2, AND, 0, 0, 0}, {1, 2, A, 8, 0, 0},
            {1, 2, A, -1, 0, 0}});
        for (int line = 1; line < 8; line++) {
            refusedEach(ProofEdgesTest::open, new int[] {2, 2, A, line, 0, 0});
        }
    }

    private static void ruleSecondOfAnd() {
        part = "rule 3: likewise, it is g";
        acceptedEach(ProofEdgesTest::open, new int[] {3, B, 0, 0, 0, 0, 0, 0});
        refusedEach(ProofEdgesTest::open, new int[][] {{3, 3, A, 0, 0, 0}, {3, 3, AND, 0, 0, 0}, {1, 3, B, 8, 0, 0},
            {1, 3, B, -1, 0, 0}});
        for (int line = 1; line < 8; line++) {
            refusedEach(ProofEdgesTest::open, new int[] {2, 3, B, line, 0, 0});
        }
    }

    private static void ruleFirstOfOr() {
        part = "rule 4: line a has f, this one is f | g, with any g";
        acceptedEach(ProofEdgesTest::open, new int[][] {{4, OR, 6, 0, 0, 6, 0, 0}, {4, AORA, 6, 0, 0, 6, 0, 0},
            {4, BORA, 7, 0, 0, 7, 0, 0}, {4, BORB, 7, 0, 0, 7, 0, 0}});
        refusedEach(ProofEdgesTest::open, new int[][] {{3, 4, OR, 7, 0, 0}, {3, 4, OR, 1, 0, 0}, {3, 4, AND, 6, 0, 0},
            {3, 4, THEN, 6, 0, 0}, {3, 4, A, 6, 0, 0}, {3, 4, NOT, 6, 0, 0}, {1, 4, OR, 8, 0, 0}, {1, 4, OR, -1, 0, 0}});
    }

    private static void ruleSecondOfOr() {
        part = "rule 5: line a has g, this one is f | g, with any f";
        acceptedEach(ProofEdgesTest::open, new int[][] {{5, OR, 7, 0, 0, 7, 0, 0}, {5, AORA, 6, 0, 0, 6, 0, 0},
            {5, BORA, 6, 0, 0, 6, 0, 0}, {5, BORB, 7, 0, 0, 7, 0, 0}});
        refusedEach(ProofEdgesTest::open, new int[][] {{3, 5, OR, 6, 0, 0}, {3, 5, OR, 1, 0, 0}, {3, 5, AND, 7, 0, 0},
            {3, 5, THEN, 7, 0, 0}, {3, 5, B, 7, 0, 0}, {1, 5, OR, 8, 0, 0}, {1, 5, OR, -1, 0, 0}});
    }

    private static void ruleCases() {
        part = "rule 6: line a has f | g; box b begins with f, box c with g, both end with this formula";
        acceptedEach(ProofEdgesTest::boxes, new int[][] {{6, BORA, 0, 0, 1, 0, 0, 1}, {6, BORA, 1, 1, 1, 1, 1, 1},
            {6, B, 1, 2, 2, 1, 2, 2}, {6, B, 1, 2, 6, 1, 2, 6}, {6, B, 1, 6, 2, 1, 6, 2}});
        refusedEach(ProofEdgesTest::boxes, new int[][] {{3, 6, BORA, 0, 1, 0}, {3, 6, BORA, 0, 0, 0}, {3, 6, BORA, 0, 1, 1},
            {3, 6, BORA, 0, 0, 2}, {3, 6, B, 0, 0, 2}, {3, 6, BORA, 1, 2, 1}, {3, 6, BORA, 1, 1, 2}, {3, 6, OR, 0, 0, 1},
            {3, 6, B, 1, 1, 2}, {3, 6, B, 1, 2, 1}, {2, 6, BORA, 12, 0, 1}, {1, 6, BORA, 0, 5, 1}, {1, 6, BORA, 0, 0, 5},
            {1, 6, BORA, 0, 7, 1}, {1, 6, BORA, 0, 0, 7}, {1, 6, BORA, 0, -1, 1}, {1, 6, BORA, 0, 0, -1},
            {1, 6, BORA, 15, 0, 1}, {1, 6, BORA, -1, 0, 1}, {1, 6, BORA, 2, 0, 1}, {1, 6, BORA, 0, MIN, MAX}});
    }

    private static void ruleThen() {
        part = "rule 7: box a begins with f and ends with g, this one is f > g";
        acceptedEach(ProofEdgesTest::boxes, new int[][] {{7, 18, 0, 0, 0, 0, 0, 0}, {7, 19, 1, 0, 0, 1, 0, 0},
            {7, BTHENB, 2, 0, 0, 2, 0, 0}, {7, NOTHENNO, 3, 0, 0, 3, 0, 0}, {7, 23, 4, 0, 0, 4, 0, 0},
            {7, BTHENB, 6, 0, 0, 6, 0, 0}});
        refusedEach(ProofEdgesTest::boxes, new int[][] {{3, 7, 19, 0, 0, 0}, {3, 7, 18, 1, 0, 0}, {3, 7, BTHENB, 1, 0, 0},
            {3, 7, BORB, 2, 0, 0}, {3, 7, B, 2, 0, 0}, {3, 7, BTHENA, 2, 0, 0}, {3, 7, THEN, 2, 0, 0}, {1, 7, ATHENA, 5, 0, 0},
            {1, 7, BTHENB, 7, 0, 0}, {1, 7, BTHENB, -1, 0, 0}, {1, 7, BTHENB, MIN, 0, 0}, {1, 7, BTHENB, MAX, 0, 0}});
    }

    private static void ruleUseOfThen() {
        part = "rule 8: line a has f > g, line b has f, this one is g";
        acceptedEach(ProofEdgesTest::open, new int[] {8, B, 2, 6, 0, 2, 6, 0});
        refusedEach(ProofEdgesTest::open, new int[][] {{3, 8, A, 2, 6, 0}, {3, 8, THEN, 2, 6, 0}, {3, 8, B, 2, 7, 0},
            {3, 8, B, 2, 2, 0}, {3, 8, B, 2, 0, 0}, {1, 8, B, 8, 6, 0}, {1, 8, B, 2, 8, 0}, {1, 8, B, -1, 6, 0},
            {1, 8, B, 2, -1, 0}});
        for (int line : new int[] {0, 1, 3, 4, 5, 6, 7}) {
            refusedEach(ProofEdgesTest::open, new int[] {2, 8, B, line, 6, 0}, new int[] {2, 8, B, line, 2, 0});
        }
    }

    private static void ruleNot() {
        part = "rule 9: box a begins with f and ends with #, this one is -f";
        acceptedEach(ProofEdgesTest::boxes, new int[][] {{9, NOTNO, 3, 0, 0, 3, 0, 0}, {9, NOCLASH, 4, 0, 0, 4, 0, 0}});
        refusedEach(ProofEdgesTest::boxes, new int[][] {{2, 9, NOT, 0, 0, 0}, {2, 9, NOTB, 1, 0, 0}, {2, 9, NOTB, 2, 0, 0},
            {2, 9, NOTB, 6, 0, 0}, {3, 9, NOT, 3, 0, 0}, {3, 9, NO, 3, 0, 0}, {3, 9, NOTNO, 4, 0, 0}, {3, 9, NOT, 4, 0, 0},
            {3, 9, CLASH, 4, 0, 0}, {1, 9, NOT, 5, 0, 0}, {1, 9, NOT, 7, 0, 0}, {1, 9, NOTNO, -1, 0, 0}});
    }

    private static void ruleFalse() {
        part = "rule 10: line a has f, line b has -f, this one is #";
        acceptedEach(ProofEdgesTest::open, new int[][] {{10, NO, 6, 4, 0, 6, 4, 0}, {10, NO, 4, 5, 0, 4, 5, 0}});
        refusedEach(ProofEdgesTest::open, new int[][] {{3, 10, NO, 7, 4, 0}, {3, 10, NO, 6, 5, 0}, {3, 10, NO, 4, 4, 0},
            {3, 10, A, 6, 4, 0}, {3, 10, NOT, 6, 4, 0}, {1, 10, NO, 8, 4, 0}, {1, 10, NO, 6, 8, 0}, {1, 10, NO, -1, 4, 0},
            {1, 10, NO, 6, -1, 0}});
        for (int line : new int[] {0, 1, 2, 3, 6, 7}) {
            refusedEach(ProofEdgesTest::open, new int[] {2, 10, NO, 4, line, 0}, new int[] {2, 10, NO, 6, line, 0});
        }
    }

    private static void ruleAnything() {
        part = "rule 11: line a has #, this one is any formula";
        for (int f = 0; f < FORMULAS.length; f++) {
            acceptedEach(ProofEdgesTest::open, new int[] {11, f, 3, 0, 0, 3, 0, 0});
        }
        for (int line : new int[] {0, 1, 2, 4, 5, 6, 7}) {
            refusedEach(ProofEdgesTest::open, new int[] {2, 11, A, line, 0, 0});
        }
        refusedEach(ProofEdgesTest::open, new int[][] {{1, 11, A, 8, 0, 0}, {1, 11, A, -1, 0, 0}});
    }

    private static void ruleNotNot() {
        part = "rule 12: line a has --f, this one is f";
        acceptedEach(ProofEdgesTest::open, new int[] {12, A, 5, 0, 0, 5, 0, 0});
        refusedEach(ProofEdgesTest::open, new int[][] {{3, 12, NOT, 5, 0, 0}, {3, 12, NOTNOT, 5, 0, 0}, {3, 12, B, 5, 0, 0},
            {1, 12, A, 8, 0, 0}, {1, 12, A, -1, 0, 0}});
        for (int line : new int[] {0, 1, 2, 3, 4, 6, 7}) {
            refusedEach(ProofEdgesTest::open, new int[] {2, 12, A, line, 0, 0});
        }
    }

    private static void ruleTheoremWithoutPremises() {
        part = "rule 13: the conclusion, with formulas in the places of its letters, is this one";
        acceptedEach(ProofEdgesTest::theorems, new int[][] {{13, ATHENA, 0, 0, 0, 0, 0, 0}, {13, BTHENB, 0, 0, 0, 0, 0, 0},
            {13, NOTHENNO, 0, 0, 0, 0, 0, 0}});
        refusedEach(ProofEdgesTest::theorems, new int[][] {{3, 13, THEN, 0, 0, 0}, {3, 13, A, 0, 0, 0}, {3, 13, AORA, 0, 0, 0},
            {3, 13, NO, 0, 0, 0}, {1, 13, ATHENA, 5, 0, 0}, {1, 13, ATHENA, -1, 0, 0}, {1, 13, ATHENA, MIN, 0, 0},
            {1, 13, ATHENA, MAX, 0, 0}, {1, 13, ATHENA, 16, 0, 0}});
        refusedEach(ProofEdgesTest::desk, new int[] {1, 13, ATHENA, 0, 0, 0});
        ProofDesk x = theorems();
        x.begin();
        x.assume(NO);
        x.step(11, A, 0, 0, 0);
        x.close();
        x.step(7, read(x, "#>a"), 0, 0, 0);
        due("theorem 5", x.end(), 5);
        accepted(x, 13, NOTHENNO, 5, 7, 7, 5, 0, 0);
        refused(x, 3, 13, ATHENA, 5, 0, 0);
    }

    private static void ruleTheoremWithPremises() {
        part = "rule 13: its first premise the formula of line b, its second one that of line c";
        acceptedEach(ProofEdgesTest::theorems, new int[][] {{13, AORA, 1, 1, 0, 1, 1, 0}, {13, BORB, 1, 2, 0, 1, 2, 0},
            {13, B, 2, 1, 0, 2, 1, 0}, {13, B, 3, 1, 2, 3, 1, 2}, {13, A, 3, 2, 1, 3, 2, 1}, {13, A, 3, 1, 1, 3, 1, 1}});
        refusedEach(ProofEdgesTest::theorems, new int[][] {{3, 13, AORA, 1, 2, 0}, {3, 13, BORB, 1, 1, 0},
            {3, 13, OR, 1, 1, 0}, {3, 13, B, 2, 0, 1}, {3, 13, B, 2, 2, 0}, {3, 13, A, 2, 1, 0}, {3, 13, B, 2, 1, 2},
            {3, 13, B, 3, 2, 1}, {3, 13, A, 3, 1, 2}, {1, 13, AORA, 1, 3, 0}, {1, 13, AORA, 1, 4, 0}, {1, 13, AORA, 1, -1, 0},
            {1, 13, B, 2, 4, 0}, {1, 13, B, 2, 1, 4}, {1, 13, B, 2, 1, -1}, {1, 13, B, 2, 1, MAX}, {1, 13, B, 3, 1, 3},
            {1, 13, BANDA, 4, 3, 0}});
    }

    private static void ruleTheoremAllAtOnce() {
        part = "rule 13: all at once";
        ProofDesk x = theorems();
        x.begin();
        x.premise(AND);
        x.premise(BANDA);
        accepted(x, 13, BANDA, 4, 0, 0, 4, 0, 0);
        accepted(x, 13, AND, 4, 1, 0, 4, 1, 0);
        refused(x, 3, 13, AND, 4, 0, 0);
        refused(x, 3, 13, BANDA, 4, 1, 0);
        refused(x, 3, 13, AANDA, 4, 0, 0);
        x.begin();
        x.premise(AANDA);
        accepted(x, 13, AANDA, 4, 0, 0, 4, 0, 0);
        int pair = read(x, "(b>a)&(a&b)");
        int turned = read(x, "(a&b)&(b>a)");
        x.premise(pair);
        accepted(x, 13, turned, 4, 1, 0, 4, 1, 0);
        refused(x, 3, 13, pair, 4, 1, 0);
    }

    private static void ruleTheoremLetters() {
        part = "rule 13: for each letter there is a formula, also for one that stands in premises alone";
        ProofDesk x = desk();
        int many = read(x, "a>b&(c|-d)");
        x.premise(many);
        x.premise(many);
        due("theorem 0", x.end(), 0);
        x.premise(read(x, "c&-c"));
        x.premise(read(x, "c"));
        x.step(0, read(x, "c"), 1, 0, 0);
        due("theorem 1: c&-c, c / c", x.end(), 1);
        int same = read(x, "h>g&(f|-e)");
        int other = read(x, "h>g&(f|-f)");
        x.premise(same);
        x.premise(other);
        accepted(x, 13, same, 0, 0, 0, 0, 0, 0);
        accepted(x, 13, other, 0, 1, 1, 0, 1, 1);
        refused(x, 3, 13, same, 0, 0, 1);
        refused(x, 3, 13, same, 0, 1, 0);
        refused(x, 3, 13, other, 0, 0, 0);
        x.assume(CLASH);
        x.assume(A);
        x.assume(B);
        accepted(x, 13, A, 1, 2, 3, 1, 2, 3);
        refused(x, 3, 13, B, 1, 2, 4);
        refused(x, 3, 13, B, 1, 2, 3);
        refused(x, 3, 13, A, 1, 3, 3);
    }

    private static void theSmallestRefusal() {
        part = "refused, and told why, the smallest of these that applies";
        refusedEach(ProofEdgesTest::open, new int[][] {{1, 1, A, 6, 9, 0}, {1, 8, A, 6, 8, 0}, {1, 10, A, 8, 6, 0},
            {2, 2, AND, 1, 0, 0}, {2, 3, AND, 1, 0, 0}, {2, 8, A, 6, 7, 0}, {2, 10, A, 6, 7, 0}, {2, 12, B, 4, 0, 0},
            {3, 10, A, 7, 4, 0}});
        refusedEach(ProofEdgesTest::boxes, new int[][] {{1, 6, A, 12, 0, 9}, {1, 6, A, 12, 9, 0}, {1, 6, A, 99, 0, 1},
            {2, 6, A, 12, 0, 1}, {2, 6, A, 12, 1, 0}, {2, 9, A, 0, 0, 0}, {3, 9, A, 3, 0, 0}, {3, 6, A, 0, 2, 3}});
        refusedEach(ProofEdgesTest::theorems, new int[][] {{1, 13, A, 2, 9, 0}, {1, 13, A, 9, 0, 0}, {3, 13, A, 2, 0, 0}});
    }

    private static void whatIsNotNeededIsKeptAs0() {
        part = "references that a rule does not need do not matter, and are kept as 0";
        int[][] open = {{0, A, 6}, {2, A, 0}, {3, B, 0}, {4, OR, 6}, {5, OR, 7}, {11, B, 3}, {12, A, 5}};
        for (int any : new int[] {-1, 5, 60, MIN, MAX}) {
            for (int[] row : open) {
                accepted(open(), row[0], row[1], row[2], any, any, row[2], 0, 0);
            }
            accepted(open(), 1, AND, 6, 7, any, 6, 7, 0);
            accepted(open(), 8, B, 2, 6, any, 2, 6, 0);
            accepted(open(), 10, NO, 6, 4, any, 6, 4, 0);
            accepted(boxes(), 7, BTHENB, 2, any, any, 2, 0, 0);
            accepted(boxes(), 9, NOTNO, 3, any, any, 3, 0, 0);
            accepted(theorems(), 13, BTHENB, 0, any, any, 0, 0, 0);
            accepted(theorems(), 13, BORB, 1, 2, any, 1, 2, 0);
        }
    }

    private static void undoWithoutAnythingDone() {
        part = "16: throws if nothing was done";
        ProofDesk x = desk();
        thrown("a new proof", x, STATE, x::undo);
        x.premise(A);
        due("the premise", x.undo(), 0);
        thrown("nothing is left", x, STATE, x::undo);
        x.assume(A);
        due("the box", x.undo(), 0);
        thrown("nothing is left", x, STATE, x::undo);
    }

    private static void undoTakesBackAllThatWasDone() {
        part = "16: 60 lines and 60 closings";
        ProofDesk x = new ProofDesk();
        x.make(0, 0, 0);
        long before = x.digest();
        for (int k = 0; k < 60; k++) {
            x.assume(0);
            x.close();
        }
        for (int k = 59; k >= 0; k--) {
            due("the closing of box " + k, x.undo(), k + 1);
            due("the box is open", x.box(k, 1), -1);
            due("box " + k, x.undo(), k);
        }
        thrown("nothing is left", x, STATE, x::undo);
        due("digest", x.digest(), before);
    }

    private static void undoTakesBackTheLatest() {
        part = "16: a line that was added (with the box that it opened, if it did), or the closing of a box";
        ProofDesk x = desk();
        long[] stages = new long[10];
        int[] lines = {0, 1, 2, 3, 4, 4, 5, 6, 6, 6};
        for (int k = 0; k < 10; k++) {
            stages[k] = x.digest();
            due("lines ahead of " + k, x.count(3), lines[k]);
            switch (k) {
                case 0 -> x.premise(A);
                case 1 -> x.assume(B);
                case 2 -> x.assume(A);
                case 3 -> x.step(0, B, 1, 0, 0);
                case 4, 7, 8 -> x.close();
                case 5 -> x.step(7, 4, 1, 0, 0);
                case 6 -> x.assume(NO);
                default -> x.step(0, A, 0, 0, 0);
            }
        }
        for (int k = 9; k >= 0; k--) {
            due("undo of " + k, x.undo(), lines[k]);
            due("digest behind it", x.digest(), stages[k]);
        }
        x.assume(A);
        x.assume(B);
        x.undo();
        due("the box around it is the open one", x.close(), 0);
        x.undo();
        due("box 1 again", x.assume(B), 1);
        due("its number", x.line(1, 5), 1);
        due("around it", x.box(1, 2), 0);
    }

    private static void undoKnowsNothingOfRefusedCalls() {
        part = "16: what was refused was not done";
        ProofDesk x = desk();
        x.premise(A);
        x.premise(A);
        thrown("a premise", x, STATE, () -> x.premise(A));
        thrown("a closing", x, STATE, x::close);
        refused(x, 1, 0, A, 2, 0, 0);
        refused(x, 2, 2, A, 0, 0, 0);
        refused(x, 3, 0, B, 0, 0, 0);
        thrown("a step", x, ARGUMENT, () -> x.step(14, A, 0, 0, 0));
        thrown("an assumption", x, INDEX, () -> x.assume(99));
        x.make(0, 7, 0);
        x.hint(A, 0);
        due("the second premise", x.undo(), 1);
        due("the first premise", x.undo(), 0);
        thrown("nothing is left", x, STATE, x::undo);
        ProofDesk y = desk();
        for (int k = 0; k < 6; k++) {
            y.assume(A);
        }
        thrown("a seventh box", y, STATE, () -> y.assume(A));
        due("the sixth box", y.undo(), 5);
        due("open boxes", y.count(5), 5);
    }

    private static void undoOfThisProofAlone() {
        part = "16: what was done latest of this proof";
        ProofDesk x = desk();
        x.premise(A);
        x.begin();
        thrown("begun anew", x, STATE, x::undo);
        x.premise(A);
        x.end();
        thrown("ended", x, STATE, x::undo);
        x.assume(A);
        x.close();
        x.begin();
        x.assume(B);
        due("the line of this proof", x.undo(), 0);
        thrown("nothing is left", x, STATE, x::undo);
        ProofDesk y = theorems();
        y.step(13, BTHENB, 0, 0, 0);
        due("uses", y.theorem(0, 6), 1);
        y.undo();
        due("the use stays", y.theorem(0, 6), 1);
    }

    private static void rangesOfCount() {
        part = "17: what is 0 to 8";
        ProofDesk x = desk();
        due("count(0)", x.count(0), FORMULAS.length);
        due("count(8)", x.count(8), 0);
        for (int bad : new int[] {-1, 9, 10, MIN, MAX}) {
            thrown("count(" + bad + ")", x, INDEX, () -> x.count(bad));
        }
    }

    private static void countsAre(ProofDesk x, int... want) {
        for (int what = 0; what < want.length; what++) {
            due("count(" + what + ")", x.count(what), want[what]);
        }
    }

    private static void mostThatCountTells() {
        part = "17: how many there are at most";
        ProofDesk x = full();
        x.write(239);
        tape(x, times(400, " "));
        x.premise(0);
        x.premise(0);
        x.step(0, 0, 0, 0, 0);
        for (int k = 0; k < 6; k++) {
            x.assume(0);
        }
        countsAre(x, 240, 400, 240, 9, 6, 6, 2, 0, 1);
        ProofDesk y = new ProofDesk();
        y.make(0, 0, 0);
        for (int k = 0; k < 16; k++) {
            y.premise(0);
            y.end();
        }
        for (int k = 0; k < 60; k++) {
            y.assume(0);
            y.close();
        }
        countsAre(y, 1, 0, 0, 60, 60, 0, 0, 16, 1);
        countsAre(sixty(), FORMULAS.length, 0, 0, 60, 0, 0, 1, 0, 60);
    }

    private static void rangesOfLine() {
        part = "18: there is such a line, what is 0 to 7";
        ProofDesk x = desk();
        thrown("line 0 of none", x, INDEX, () -> x.line(0, 0));
        x.premise(B);
        due("line 0 of one", x.line(0, 0), B);
        due("what 7", x.line(0, 7), 1);
        for (int bad : new int[] {-1, 8, MIN, MAX}) {
            thrown("what " + bad, x, INDEX, () -> x.line(0, bad));
        }
        for (int bad : new int[] {-1, 1, MIN, MAX}) {
            thrown("line " + bad, x, INDEX, () -> x.line(bad, 0));
        }
        ProofDesk y = sixty();
        due("line 59 of 60", y.line(59, 2), 58);
        thrown("line 60 of 60", y, INDEX, () -> y.line(60, 0));
        y.undo();
        thrown("line 59 of 59", y, INDEX, () -> y.line(59, 0));
    }

    private static void whatLineTells() {
        part = "18: its formula, its rule, its references, its box, whether it can be referred to and is needed";
        ProofDesk x = boxes();
        lineIs(x, 0, OR, 15, 0, 0, 0, -1, 1, 0);
        lineIs(x, 2, A, 14, 0, 0, 0, 0, 0, 0);
        lineIs(x, 3, BORA, 5, 2, 0, 0, 0, 0, 0);
        lineIs(x, 5, BORA, 4, 4, 0, 0, 1, 0, 0);
        lineIs(x, 11, NO, 10, 9, 10, 0, 4, 0, 0);
        lineIs(x, 12, A, 14, 0, 0, 0, 5, 1, 0);
        lineIs(x, 13, B, 14, 0, 0, 0, 6, 0, 1);
        lineIs(x, 14, B, 0, 13, 0, 0, 6, 0, 1);
        x.step(6, BORA, 0, 0, 1);
        lineIs(x, 15, BORA, 6, 0, 0, 1, 5, 1, 1);
    }

    private static void neededAre(ProofDesk x, String needed) {
        int many = 0;
        for (int k = 0; k < needed.length(); k++) {
            boolean yes = needed.charAt(k) == 'y';
            many += yes ? 1 : 0;
            due("line(" + k + ", 7)", x.line(k, 7), yes ? 1 : 0);
        }
        due("lines", x.count(3), needed.length());
        due("count(8)", x.count(8), many);
    }

    private static void neededWithoutLines() {
        part = "17: lines that are needed (0 without lines)";
        ProofDesk x = desk();
        neededAre(x, "");
        x.premise(A);
        neededAre(x, "y");
        x.undo();
        neededAre(x, "");
        x.assume(A);
        neededAre(x, "y");
        x.begin();
        neededAre(x, "");
    }

    private static void neededAreTheLatestAndItsReferences() {
        part = "the latest line is needed; and of each line that is needed all lines to which it refers";
        ProofDesk x = desk();
        x.premise(A);
        x.premise(B);
        neededAre(x, "ny");
        x.step(0, A, 0, 0, 0);
        neededAre(x, "yny");
        x.step(0, B, 1, 0, 0);
        neededAre(x, "nyny");
        x.step(1, AND, 2, 3, 0);
        neededAre(x, "yyyyy");
        x.step(2, A, 4, 0, 0);
        x.step(0, A, 2, 0, 0);
        neededAre(x, "ynynnny");
        x.assume(B);
        neededAre(x, "nnnnnnny");
        x.close();
        neededAre(x, "nnnnnnny");
        x.step(0, A, 0, 1, 1);
        neededAre(x, "ynnnnnnny");
    }

    private static void neededOfBoxes() {
        part = "for a box to which it refers, its first and its last line (so the lines which these need)";
        ProofDesk x = desk();
        x.premise(A);
        x.premise(B);
        x.assume(B);
        x.step(0, A, 0, 0, 0);
        x.step(0, B, 1, 0, 0);
        x.step(0, A, 3, 0, 0);
        x.close();
        neededAre(x, "ynnyny");
        x.step(7, BTHENA, 0, 0, 0);
        neededAre(x, "ynyynyy");
        x.undo();
        x.undo();
        x.assume(A);
        x.close();
        x.close();
        x.step(7, BTHENA, 0, 0, 0);
        neededAre(x, "ynyynyny");
        ProofDesk y = desk();
        y.assume(NO);
        y.close();
        y.step(9, NOTNO, 0, 0, 0);
        neededAre(y, "yy");
        y.step(0, NOTNO, 1, 0, 0);
        neededAre(y, "yyy");
    }

    private static void neededOfAllReferences() {
        part = "all lines to which it refers: a, b and c, whether they are lines or boxes";
        ProofDesk x = boxes();
        x.step(6, BORA, 0, 0, 1);
        neededAre(x, "ynyyyynnnnnnnnny");
        x.undo();
        x.step(6, BORA, 1, 1, 1);
        neededAre(x, "nynnyynnnnnnnnny");
        x.undo();
        x.step(6, B, 1, 2, 6);
        neededAre(x, "nynnnnynnnnnnyyy");
        x.undo();
        x.step(9, NOCLASH, 4, 0, 0);
        neededAre(x, "nnnnnnnnyyyynnny");
        ProofDesk y = open();
        y.step(8, B, 2, 6, 7);
        neededAre(y, "nnynnnyny");
        y.undo();
        y.step(10, NO, 4, 5, 7);
        neededAre(y, "nnnnyynny");
        y.undo();
        y.step(11, B, 3, 5, 7);
        neededAre(y, "nnnynnnny");
    }

    private static void neededOfTheorems() {
        part = "of a theorem the lines of its premises alone";
        ProofDesk x = theorems();
        x.step(13, BTHENB, 0, 1, 2);
        neededAre(x, "nnnny");
        x.step(13, AORA, 1, 1, 2);
        neededAre(x, "nynnny");
        x.step(13, B, 2, 1, 0);
        neededAre(x, "yynnnny");
        x.step(13, B, 3, 1, 2);
        neededAre(x, "nyynnnny");
        x.step(13, B, 3, 1, 6);
        neededAre(x, "yynnnnyny");
    }

    private static void rangesOfBox() {
        part = "19: there is such a box, what is 0 to 3";
        ProofDesk x = desk();
        thrown("box 0 of none", x, INDEX, () -> x.box(0, 0));
        x.premise(A);
        thrown("box 0 of none, with a line", x, INDEX, () -> x.box(0, 0));
        x.assume(A);
        due("box 0 of one", x.box(0, 0), 1);
        due("what 3", x.box(0, 3), 0);
        for (int bad : new int[] {-1, 4, MIN, MAX}) {
            thrown("what " + bad, x, INDEX, () -> x.box(0, bad));
        }
        for (int bad : new int[] {-1, 1, MIN, MAX}) {
            thrown("box " + bad, x, INDEX, () -> x.box(bad, 0));
        }
        ProofDesk y = desk();
        for (int k = 0; k < 60; k++) {
            y.assume(A);
            y.close();
        }
        due("box 59 of 60", y.box(59, 0), 59);
        thrown("box 60 of 60", y, INDEX, () -> y.box(60, 0));
        y.undo();
        y.undo();
        thrown("box 59 of 59", y, INDEX, () -> y.box(59, 0));
    }

    private static void boxIs(ProofDesk x, int box, int... want) {
        for (int what = 0; what < want.length; what++) {
            due("box(" + box + ", " + what + ")", x.box(box, what), want[what]);
        }
    }

    private static void whatBoxTells() {
        part = "19: its first line, its last line, the box in which it is, whether it can be referred to";
        ProofDesk x = boxes();
        boxIs(x, 0, 2, 3, -1, 1);
        boxIs(x, 2, 6, 6, -1, 1);
        boxIs(x, 4, 8, 11, -1, 1);
        boxIs(x, 5, 12, -1, -1, 0);
        boxIs(x, 6, 13, 14, 5, 1);
        x.close();
        boxIs(x, 5, 12, 12, -1, 1);
        boxIs(x, 6, 13, 14, 5, 0);
        x.undo();
        boxIs(x, 5, 12, -1, -1, 0);
        boxIs(x, 6, 13, 14, 5, 1);
    }

    private static void rangesOfFails() {
        part = "20: there is such a line";
        ProofDesk x = desk();
        thrown("line 0 of none", x, INDEX, () -> x.fails(0));
        x.premise(A);
        due("line 0 of one", x.fails(0), 0);
        for (int bad : new int[] {-1, 1, MIN, MAX}) {
            thrown("line " + bad, x, INDEX, () -> x.fails(bad));
        }
        ProofDesk y = sixty();
        due("line 59 of 60", y.fails(59), 0);
        thrown("line 60 of 60", y, INDEX, () -> y.fails(60));
    }

    private static void noLineFails() {
        part = "20: for how many sets a line fails, if all premises and all assumptions around it are true";
        for (ProofDesk x : new ProofDesk[] {open(), boxes(), theorems()}) {
            x.step(4, OR, 6, 0, 0);
            for (int k = 0; k < x.count(3); k++) {
                due("fails(" + k + ")", x.fails(k), 0);
            }
        }
        ProofDesk y = theorems();
        y.begin();
        y.step(13, BTHENB, 0, 0, 0);
        due("without premises and boxes", y.fails(0), 0);
    }

    private static void failsTakesAllBoxesAndPremises() {
        part = "20: all premises are true, and the assumptions of all boxes in which it is";
        ProofDesk x = new ProofDesk();
        for (int letter = 0; letter < 8; letter++) {
            x.make(0, letter, 0);
        }
        x.premise(0);
        x.premise(1);
        for (int f = 2; f < 8; f++) {
            due("the assumption of box " + (f - 2), x.assume(f), f);
        }
        for (int f = 0; f < 8; f++) {
            x.step(0, f, f, 0, 0);
            due("line " + f + " again in the sixth box", x.fails(8 + f), 0);
            due("line " + f, x.fails(f), 0);
        }
    }

    private static void rangesOfHint() {
        part = "21: there is such a formula, which is 0 to 3";
        ProofDesk x = new ProofDesk();
        thrown("formula 0 of none", x, INDEX, () -> x.hint(0, 0));
        x.make(0, 0, 0);
        noHint(x, 0);
        x.premise(0);
        hintIs(x, 0, 0, 0, 0, 0);
        for (int bad : new int[] {-1, 4, MIN, MAX}) {
            thrown("which " + bad, x, INDEX, () -> x.hint(0, bad));
        }
        for (int bad : new int[] {-1, 1, MIN, MAX}) {
            thrown("formula " + bad, x, INDEX, () -> x.hint(bad, 0));
        }
        ProofDesk y = full();
        y.premise(239);
        due("formula 239", y.hint(239, 0), 0);
        thrown("formula 240", y, INDEX, () -> y.hint(240, 0));
        y.undo();
        thrown("which 4 without a hint", y, INDEX, () -> y.hint(239, 4));
    }

    private static void hintOfEachRule() {
        part = "21: the rule by which a step with this formula would not be refused";
        ProofDesk x = desk();
        x.premise(AND);
        hintIs(x, AND, 0, 0, 0, 0);
        hintIs(x, A, 2, 0, 0, 0);
        hintIs(x, B, 3, 0, 0, 0);
        noHint(x, OR);
        noHint(x, NO);
        x.begin();
        x.premise(A);
        x.premise(B);
        hintIs(x, BANDA, 1, 1, 0, 0);
        hintIs(x, OR, 4, 0, 0, 0);
        x.undo();
        hintIs(x, BORA, 5, 0, 0, 0);
        noHint(x, AND);
        noHint(x, NOTNOT);
        x.begin();
        x.assume(A);
        x.close();
        hintIs(x, ATHENA, 7, 0, 0, 0);
        noHint(x, A);
        x.assume(THEN);
        x.assume(A);
        hintIs(x, B, 8, 1, 2, 0);
        x.begin();
        x.premise(A);
        x.premise(NOT);
        hintIs(x, NO, 10, 0, 1, 0);
        x.begin();
        x.premise(NOTNOT);
        hintIs(x, A, 12, 0, 0, 0);
        noHint(x, NOT);
        x.begin();
        x.premise(NO);
        hintIs(x, AND, 11, 0, 0, 0);
        x.begin();
        x.assume(NO);
        x.close();
        hintIs(x, NOTNO, 9, 0, 0, 0);
        x.begin();
        x.premise(BORB);
        x.assume(B);
        x.close();
        hintIs(x, B, 6, 0, 0, 0);
        ProofDesk y = boxes();
        hintIs(y, BORA, 5, 12, 0, 0);
        y.close();
        hintIs(y, BORA, 6, 0, 0, 1);
        keeps("a hint", y, () -> due("of the rule 6", y.hint(BORA, 3), 1));
        keeps("a hint that is none", y, () -> due("of -a", y.hint(NOT, 0), -1));
    }

    private static void hintNeverTellsATheorem() {
        part = "21: the least one of 0 to 12";
        ProofDesk x = theorems();
        due("there is no rule but 13", x.step(13, BTHENB, 0, 0, 0), 0);
        x.undo();
        noHint(x, BTHENB);
        noHint(x, NOTHENNO);
        keeps("a hint", x, () -> due("of a>a", x.hint(ATHENA, 0), -1));
        due("no use of the theorem", x.theorem(0, 6), 1);
    }

    private static void hintTellsTheLeastRule() {
        part = "21: the least rule, though its references are greater";
        ProofDesk x = desk();
        int pair = read(x, "(a&b)&a");
        int inAnd = read(x, "#&(a|b)");
        x.premise(pair);
        x.premise(inAnd);
        x.assume(B);
        x.assume(A);
        hintIs(x, AND, 1, 3, 2, 0);
        x.undo();
        hintIs(x, AND, 2, 0, 0, 0);
        hintIs(x, OR, 3, 1, 0, 0);
        x.assume(AND);
        hintIs(x, AND, 0, 3, 0, 0);
        hintIs(x, A, 2, 3, 0, 0);
        x.begin();
        x.premise(BANDA);
        x.premise(AND);
        hintIs(x, A, 2, 1, 0, 0);
        hintIs(x, B, 2, 0, 0, 0);
        x.begin();
        x.premise(B);
        x.premise(A);
        hintIs(x, OR, 4, 1, 0, 0);
        x.undo();
        hintIs(x, OR, 5, 0, 0, 0);
        x.assume(A);
        x.close();
        hintIs(x, OR, 5, 0, 0, 0);
        x.begin();
        x.premise(NO);
        x.premise(NOTNOT);
        hintIs(x, A, 11, 0, 0, 0);
        hintIs(x, NO, 0, 0, 0, 0);
        hintIs(x, NOTNO, 11, 0, 0, 0);
        x.assume(NO);
        x.close();
        hintIs(x, NOTNO, 9, 0, 0, 0);
        hintIs(x, NOTHENNO, 7, 0, 0, 0);
        x.begin();
        x.premise(A);
        int denied = read(x, "--#");
        x.premise(denied);
        x.assume(NOT);
        hintIs(x, NO, 10, 0, 2, 0);
        x.begin();
        x.premise(read(x, "#>a>a"));
        x.assume(A);
        x.close();
        x.assume(NO);
        hintIs(x, ATHENA, 7, 0, 0, 0);
        hintIs(x, BTHENB, 11, 2, 0, 0);
        hintLeastAmongBoxes();
    }

    private static void hintLeastAmongBoxes() {
        ProofDesk x = desk();
        x.premise(BORB);
        x.assume(B);
        x.step(4, BORA, 1, 0, 0);
        x.close();
        x.assume(B);
        x.assume(A);
        hintIs(x, BORA, 4, 3, 0, 0);
        x.close();
        x.close();
        hintIs(x, BORA, 6, 0, 0, 0);
        hintIs(x, B, 6, 0, 1, 1);
        hintIs(x, 19, 7, 0, 0, 0);
        hintIs(x, BTHENB, 7, 1, 0, 0);
        x.begin();
        x.premise(read(x, "b>-#"));
        x.premise(B);
        hintIs(x, NOTNO, 8, 0, 1, 0);
        x.assume(NO);
        x.close();
        hintIs(x, NOTNO, 8, 0, 1, 0);
    }

    private static void hintTellsTheLeastReferences() {
        part = "21: the least references a, of these b, of these c";
        ProofDesk x = desk();
        x.premise(A);
        x.premise(B);
        x.step(0, A, 0, 0, 0);
        x.step(0, B, 1, 0, 0);
        hintIs(x, A, 0, 0, 0, 0);
        hintIs(x, B, 0, 1, 0, 0);
        hintIs(x, AND, 1, 0, 1, 0);
        hintIs(x, BANDA, 1, 1, 0, 0);
        hintIs(x, AANDA, 1, 0, 0, 0);
        hintIs(x, OR, 4, 0, 0, 0);
        hintIs(x, BORB, 4, 1, 0, 0);
        x.begin();
        x.premise(A);
        x.premise(read(x, "#>b"));
        x.assume(THEN);
        x.assume(A);
        x.assume(THEN);
        hintIs(x, B, 8, 2, 0, 0);
        x.begin();
        x.premise(A);
        x.premise(B);
        x.assume(NOTB);
        x.assume(NOT);
        x.assume(NOT);
        hintIs(x, NO, 10, 0, 3, 0);
        x.begin();
        x.premise(BORB);
        for (int k = 0; k < 3; k++) {
            x.assume(B);
            x.close();
        }
        hintIs(x, B, 6, 0, 0, 0);
        hintIs(x, BTHENB, 7, 0, 0, 0);
        ProofDesk y = boxes();
        y.close();
        y.assume(OR);
        y.step(0, OR, 0, 0, 0);
        hintIs(y, BORA, 6, 0, 0, 1);
        hintIs(y, B, 6, 1, 2, 2);
    }

    private static void hintAt60Lines() {
        part = "21: that a proof has at most 60 lines does not matter here";
        ProofDesk x = sixty();
        hintIs(x, A, 0, 0, 0, 0);
        hintIs(x, AANDA, 1, 0, 0, 0);
        hintIs(x, OR, 4, 0, 0, 0);
        hintIs(x, BORA, 5, 0, 0, 0);
        noHint(x, B);
        ProofDesk y = desk();
        for (int k = 0; k < 59; k++) {
            y.assume(A);
            y.close();
        }
        y.assume(B);
        hintIs(y, B, 0, 59, 0, 0);
        hintIs(y, BORA, 4, 59, 0, 0);
        y.close();
        hintIs(y, BTHENB, 7, 59, 0, 0);
        hintIs(y, ATHENA, 7, 0, 0, 0);
        noHint(y, A);
    }

    private static void hintKeepsToWhatCanBeReferredTo() {
        part = "21: a step by it would not be refused";
        ProofDesk x = desk();
        x.assume(B);
        x.assume(A);
        hintIs(x, A, 0, 1, 0, 0);
        noHint(x, ATHENA);
        x.close();
        noHint(x, A);
        hintIs(x, ATHENA, 7, 1, 0, 0);
        noHint(x, BTHENB);
        x.close();
        noHint(x, ATHENA);
        noHint(x, OR);
        hintIs(x, BTHENB, 7, 0, 0, 0);
        for (int bad : NOWHERE) {
            refused(x, 1, 0, A, bad, 0, 0);
        }
    }
}
