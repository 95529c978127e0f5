/**
 * The edges that the document names of theorems and of promises 22 to 26, and of the use of an
 * object: for each sentence a test of its own, on the last value that is allowed and on the first
 * that is not.
 */
public final class TheoremEdgesTest extends Checks {
    private static final int A = 0;
    private static final int B = 1;
    private static final int THEN = 2;
    private static final int ATHENA = 3;

    public static void main(String[] args) {
        endWithoutALine();
        endWithAnOpenBox();
        endInABox();
        endFillsTo16();
        endTakesPremisesAndLatestLine();
        endBeginsTheProofAnew();
        rangesOfTheorem();
        premisesThatATheoremHasNot();
        linesAndNeededOfTheorems();
        usesOfTheorems();
        usesOfTheLastTheorem();
        rangesOfInstance();
        letterDoesNotStandInTheConclusion();
        conclusionCannotBecomeIt();
        instanceOfEachSort();
        instanceOfTheLastTheoremAndFormula();
        instanceChangesNothing();
        thriftWithoutTheorems();
        thriftOfAllTheorems();
        digestOfAnEmptyNotebook();
        digestTakesEachNumberInItsOrder();
        digestWrapsAround();
        digestChangesNothing();
        digestOfAllThatIsFull();
        callsUpTo512();
        finish("the edges of theorems");
    }

    /** The formulas 0 a, 1 b, 2 a>b, 3 a>a. */
    private static ProofDesk desk() {
        ProofDesk x = new ProofDesk();
        x.make(0, 0, 0);
        x.make(0, 1, 0);
        x.make(5, 0, 1);
        x.make(5, 0, 0);
        return x;
    }

    /** The same, with the theorem 0, a>a, of 2 lines. */
    private static ProofDesk proved() {
        ProofDesk x = desk();
        x.assume(A);
        x.close();
        x.step(7, ATHENA, 0, 0, 0);
        x.end();
        return x;
    }

    private static void theoremIs(ProofDesk x, int theorem, int... want) {
        for (int what = 0; what < want.length; what++) {
            due("theorem(" + theorem + ", " + what + ")", x.theorem(theorem, what), want[what]);
        }
    }

    private static void endWithoutALine() {
        part = "22: throws if there is no line";
        ProofDesk x = desk();
        thrown("a new proof", x, STATE, x::end);
        x.premise(A);
        x.undo();
        thrown("none is left", x, STATE, x::end);
        x.premise(A);
        x.begin();
        thrown("begun anew", x, STATE, x::end);
        x.premise(A);
        due("one line", x.end(), 0);
        thrown("none behind it", x, STATE, x::end);
    }

    private static void endWithAnOpenBox() {
        part = "22: throws if a box is open";
        ProofDesk x = desk();
        x.premise(A);
        x.assume(A);
        thrown("a box", x, STATE, x::end);
        x.assume(A);
        x.close();
        thrown("the outer box", x, STATE, x::end);
        x.step(7, ATHENA, 1, 0, 0);
        thrown("a line of the outer box", x, STATE, x::end);
        x.close();
        x.step(0, A, 0, 0, 0);
        due("none", x.end(), 0);
    }

    private static void endInABox() {
        part = "22: throws if the latest line is in a box";
        ProofDesk x = desk();
        x.assume(A);
        x.close();
        thrown("in a closed box", x, STATE, x::end);
        x.step(7, ATHENA, 0, 0, 0);
        x.assume(A);
        x.assume(A);
        x.close();
        x.close();
        thrown("in two of them", x, STATE, x::end);
        x.step(0, ATHENA, 1, 0, 0);
        due("in none", x.end(), 0);
    }

    private static void endFillsTo16() {
        part = "22: throws if there are 16 theorems";
        ProofDesk x = desk();
        for (int k = 0; k < 16; k++) {
            x.premise(k % 2);
            due("theorem " + k, x.end(), k);
        }
        thrown("no line and 16 theorems", x, STATE, x::end);
        x.premise(A);
        thrown("theorem 16", x, STATE, x::end);
        due("the proof stays", x.count(3), 1);
        due("it can be taken back", x.undo(), 0);
        x.premise(B);
        thrown("theorem 16", x, STATE, x::end);
        for (int k = 0; k < 16; k++) {
            due("conclusion of " + k, x.theorem(k, 0), k % 2);
        }
    }

    private static void endTakesPremisesAndLatestLine() {
        part = "22: its premises and the formula of its latest line become a theorem";
        ProofDesk x = desk();
        x.premise(A);
        due("one premise that is the latest line", x.end(), 0);
        theoremIs(x, 0, A, 1, A, -1, 1, 1, 0);
        x.premise(THEN);
        x.premise(A);
        due("two premises, the second one the latest line", x.end(), 1);
        theoremIs(x, 1, A, 2, THEN, A, 2, 1, 0);
        x.premise(THEN);
        x.premise(A);
        x.step(8, B, 0, 1, 0);
        due("two premises", x.end(), 2);
        theoremIs(x, 2, B, 2, THEN, A, 3, 3, 0);
        x.assume(A);
        x.close();
        x.step(7, ATHENA, 0, 0, 0);
        due("no premise", x.end(), 3);
        theoremIs(x, 3, ATHENA, 0, -1, -1, 2, 2, 0);
        x.premise(B);
        x.premise(B);
        due("the same premise twice", x.end(), 4);
        theoremIs(x, 4, B, 2, B, B, 2, 1, 0);
    }

    private static void endBeginsTheProofAnew() {
        part = "22: the proof is begun anew";
        ProofDesk x = desk();
        x.premise(A);
        x.assume(B);
        x.close();
        x.step(0, A, 0, 0, 0);
        x.end();
        for (int what : new int[] {3, 4, 5, 6, 8}) {
            due("count(" + what + ")", x.count(what), 0);
        }
        thrown("a line", x, INDEX, () -> x.line(0, 0));
        thrown("a box", x, INDEX, () -> x.box(0, 0));
        thrown("something done", x, STATE, x::undo);
        due("no lines", x.begin(), 0);
        due("two premises again", x.premise(A), 0);
        due("two premises again", x.premise(B), 1);
        due("the formulas stay", x.count(0), 4);
    }

    private static void rangesOfTheorem() {
        part = "23: there is such a theorem, what is 0 to 6";
        ProofDesk x = desk();
        thrown("theorem 0 of none", x, INDEX, () -> x.theorem(0, 0));
        x.premise(A);
        thrown("theorem 0 of none, with a line", x, INDEX, () -> x.theorem(0, 0));
        x.end();
        due("theorem 0 of one", x.theorem(0, 0), A);
        due("what 6", x.theorem(0, 6), 0);
        for (int bad : new int[] {-1, 7, MIN, MAX}) {
            thrown("what " + bad, x, INDEX, () -> x.theorem(0, bad));
        }
        for (int bad : new int[] {-1, 1, MIN, MAX}) {
            thrown("theorem " + bad, x, INDEX, () -> x.theorem(bad, 0));
        }
        for (int k = 1; k < 16; k++) {
            x.premise(B);
            x.end();
        }
        due("theorem 15 of 16", x.theorem(15, 0), B);
        thrown("theorem 16 of 16", x, INDEX, () -> x.theorem(16, 0));
    }

    private static void premisesThatATheoremHasNot() {
        part = "23: 2 the first and 3 the second one, -1 if it has none";
        ProofDesk x = proved();
        x.premise(B);
        x.end();
        x.premise(A);
        x.premise(B);
        x.end();
        int[][] want = {{0, -1, -1}, {1, B, -1}, {2, A, B}};
        for (int t = 0; t < 3; t++) {
            for (int what = 1; what <= 3; what++) {
                due("theorem(" + t + ", " + what + ")", x.theorem(t, what), want[t][what - 1]);
            }
        }
    }

    private static void linesAndNeededOfTheorems() {
        part = "23: 4 how many lines its proof had, 5 how many of these were needed";
        ProofDesk x = desk();
        x.premise(A);
        x.end();
        theoremIs(x, 0, A, 1, A, -1, 1, 1);
        x.premise(A);
        for (int k = 1; k < 60; k++) {
            x.step(0, A, k - 1, 0, 0);
        }
        x.end();
        theoremIs(x, 1, A, 1, A, -1, 60, 60);
        x.premise(A);
        for (int k = 1; k < 60; k++) {
            x.step(0, A, 0, 0, 0);
        }
        x.end();
        theoremIs(x, 2, A, 1, A, -1, 60, 2);
        x.premise(A);
        x.premise(B);
        x.assume(A);
        x.step(0, B, 1, 0, 0);
        x.step(0, A, 0, 0, 0);
        x.step(0, B, 3, 0, 0);
        x.close();
        x.step(7, THEN, 0, 0, 0);
        x.end();
        theoremIs(x, 3, THEN, 2, A, B, 7, 5);
    }

    private static void usesOfTheorems() {
        part = "23: 6 how many steps of all proofs have used it (those that were taken back, too)";
        ProofDesk x = proved();
        int bb = x.make(5, B, B);
        x.premise(A);
        x.premise(B);
        x.end();
        due("none", x.theorem(0, 6), 0);
        refused(x, 3, 13, B, 0, 0, 0);
        refused(x, 1, 13, bb, 2, 0, 0);
        refused(x, 1, 13, B, 1, 0, 0);
        keeps("instance", x, () -> due("b", x.instance(0, bb, 0), B));
        keeps("hint", x, () -> due("none", x.hint(bb, 0), -1));
        thrown("a step that throws", x, INDEX, () -> x.step(13, 99, 0, 0, 0));
        due("refused ones are none", x.theorem(0, 6), 0);
        x.step(13, bb, 0, 0, 0);
        due("one", x.theorem(0, 6), 1);
        x.undo();
        due("taken back", x.theorem(0, 6), 1);
        x.step(13, bb, 0, 0, 0);
        x.begin();
        due("begun anew", x.theorem(0, 6), 2);
        x.step(13, ATHENA, 0, 1, 1);
        x.end();
        due("ended", x.theorem(0, 6), 3);
        x.step(0, ATHENA, 0, 0, 0);
        due("other rules are none", x.theorem(0, 6), 3);
        due("the theorem that was proved by it", x.theorem(2, 6), 0);
        due("another one", x.theorem(1, 6), 0);
        for (int k = 0; k < 60; k++) {
            x.step(13, bb, 0, 0, 0);
        }
        thrown("line 60", x, STATE, () -> x.step(13, bb, 0, 0, 0));
        due("60 more", x.theorem(0, 6), 63);
    }

    private static void usesOfTheLastTheorem() {
        part = "23: 6 of the last theorem alone";
        ProofDesk x = desk();
        for (int k = 0; k < 16; k++) {
            x.premise(A);
            x.end();
        }
        x.premise(B);
        steps(x, 0, 13, B, 15, 0, 0);
        steps(x, 1, 13, B, 16, 0, 0);
        for (int k = 0; k < 16; k++) {
            due("uses of " + k, x.theorem(k, 6), k == 15 ? 1 : 0);
        }
        lineIs(x, 1, B, 13, 15, 0, 0, -1, 1, 1);
    }

    private static void rangesOfInstance() {
        part = "24: there is such a theorem and formula, letter is 0 to 7";
        ProofDesk x = desk();
        thrown("theorem 0 of none", x, INDEX, () -> x.instance(0, A, 0));
        ProofDesk y = proved();
        due("theorem 0 of one", y.instance(0, ATHENA, 0), A);
        due("letter 7", y.instance(0, ATHENA, 7), -1);
        for (int bad : new int[] {-1, 8, MIN, MAX}) {
            thrown("letter " + bad, y, INDEX, () -> y.instance(0, ATHENA, bad));
        }
        for (int bad : new int[] {-1, 4, MIN, MAX}) {
            thrown("formula " + bad, y, INDEX, () -> y.instance(0, bad, 0));
        }
        for (int bad : new int[] {-1, 1, MIN, MAX}) {
            thrown("theorem " + bad, y, INDEX, () -> y.instance(bad, ATHENA, 0));
        }
        ProofDesk z = proved();
        thrown("letter 8, and it cannot become it", z, INDEX, () -> z.instance(0, B, 8));
        int h = z.make(0, 7, 0);
        z.premise(h);
        z.end();
        due("letter 7 stands in it", z.instance(1, THEN, 7), THEN);
        due("letter 6 does not", z.instance(1, THEN, 6), -1);
    }

    private static void letterDoesNotStandInTheConclusion() {
        part = "24: -1 if the letter does not stand in it";
        ProofDesk x = desk();
        x.premise(A);
        x.premise(B);
        x.end();
        due("the letter of the conclusion", x.instance(0, THEN, 1), THEN);
        due("a letter of a premise alone", x.instance(0, THEN, 0), -1);
        due("a letter that is no formula yet", x.instance(0, THEN, 2), -1);
        x.make(0, 2, 0);
        due("a letter that stands nowhere", x.instance(0, THEN, 2), -1);
        int no = x.make(1, 0, 0);
        x.premise(no);
        x.end();
        for (int letter = 0; letter < 8; letter++) {
            due("# has no letter", x.instance(1, no, letter), -1);
        }
    }

    private static void conclusionCannotBecomeIt() {
        part = "24: -1 if the conclusion cannot become f";
        ProofDesk x = new ProofDesk();
        int f = read(x, "a&(b|#)>-a");
        x.premise(f);
        x.end();
        int good = read(x, "c&(c|#)>-c");
        int c = x.make(0, 2, 0);
        due("both letters may become one", x.instance(0, good, 0), c);
        due("both letters may become one", x.instance(0, good, 1), c);
        String[] bad = {"c&(b|#)>-d", "c&(b|c)>-c", "c&(b&#)>-c", "c|(b|#)>-c", "c&(b|#)>c", "(c&(b|#))&-c", "c&(b|-#)>-c",
            "#", "c", "-c", "c&(#|b)>-c", "c&#>-c", "(b|#)&c>-c"};
        for (String text : bad) {
            int other = read(x, text);
            for (int letter = 0; letter < 3; letter++) {
                due(text + " letter " + letter, x.instance(0, other, letter), -1);
            }
        }
    }

    private static void instanceOfEachSort() {
        part = "24: which formula stands for a letter";
        ProofDesk x = new ProofDesk();
        String[] conclusions = {"a", "-b", "a&b", "b|a", "a>b", "a&-(c>#)|h"};
        for (int k = 0; k < conclusions.length; k++) {
            x.premise(read(x, conclusions[k]));
            due("theorem " + k, x.end(), k);
        }
        int big = read(x, "(#&b>--a)|h");
        int no = x.make(1, 0, 0);
        due("a by anything", x.instance(0, big, 0), big);
        due("a by #", x.instance(0, no, 0), no);
        due("b by what is denied", x.instance(1, x.make(2, big, 0), 1), big);
        due("a of an and", x.instance(2, x.make(3, big, no), 0), big);
        due("b of an and", x.instance(2, x.make(3, big, no), 1), no);
        due("a of an or", x.instance(3, x.make(4, big, no), 0), no);
        due("b of an or", x.instance(3, x.make(4, big, no), 1), big);
        due("a of a then", x.instance(4, x.make(5, big, no), 0), big);
        due("b of a then", x.instance(4, x.make(5, big, no), 1), no);
        ProofDesk y = new ProofDesk();
        int falsum = y.make(1, 0, 0);
        y.premise(y.make(5, falsum, y.make(0, 0, 0)));
        y.end();
        due("# stays #", y.instance(0, y.make(5, falsum, falsum), 0), falsum);
        due("# becomes nothing else", y.instance(0, read(y, "a>#"), 0), -1);
        due("# becomes nothing else", y.instance(0, read(y, "-#>a"), 0), -1);
        int deep = read(x, "(a|b)&-((b>a)>#)|-h");
        due("a", x.instance(5, deep, 0), read(x, "a|b"));
        due("c", x.instance(5, deep, 2), read(x, "b>a"));
        due("h", x.instance(5, deep, 7), read(x, "-h"));
        due("b does not stand in it", x.instance(5, deep, 1), -1);
    }

    private static void instanceOfTheLastTheoremAndFormula() {
        part = "24: theorem 15, formula 239";
        ProofDesk x = full();
        for (int k = 0; k < 16; k++) {
            x.premise(k);
            x.end();
        }
        due("15 nots off", x.instance(15, 239, 0), 224);
        due("no not off", x.instance(0, 239, 0), 239);
        due("formula 14 has too few", x.instance(15, 14, 0), -1);
        due("formula 15 has just enough", x.instance(15, 15, 0), 0);
        thrown("formula 240", x, INDEX, () -> x.instance(15, 240, 0));
        thrown("theorem 16", x, INDEX, () -> x.instance(16, 239, 0));
        ProofDesk y = full();
        y.premise(239);
        y.end();
        due("the last formula is the conclusion", y.instance(0, 239, 0), 0);
        due("one not too few", y.instance(0, 238, 0), -1);
    }

    private static void instanceChangesNothing() {
        part = "24: it only tells";
        ProofDesk x = proved();
        x.premise(A);
        keeps("instance", x, () -> due("a", x.instance(0, ATHENA, 0), A));
        keeps("instance", x, () -> due("none", x.instance(0, THEN, 0), -1));
        due("a step behind it", x.step(13, ATHENA, 0, 0, 0), 0);
    }

    private static void thriftWithoutTheorems() {
        part = "25: 1 if there are no theorems";
        ProofDesk x = desk();
        same("a new notebook", x.thrift(), 1.0);
        x.premise(A);
        x.premise(B);
        same("the proof that is written does not count", x.thrift(), 1.0);
        x.end();
        same("one of two lines", x.thrift(), 0.5);
    }

    private static void thriftOfAllTheorems() {
        part = "25: the needed lines of the proofs of all theorems, divided by all their lines";
        ProofDesk x = proved();
        same("two of two", x.thrift(), 1.0);
        x.premise(A);
        x.premise(B);
        x.end();
        same("three of four", x.thrift(), 0.75);
        x.premise(A);
        x.step(0, A, 0, 0, 0);
        x.step(0, A, 0, 0, 0);
        same("still", x.thrift(), 0.75);
        x.end();
        same("five of seven", x.thrift(), 5.0 / 7.0);
        for (int k = 3; k < 16; k++) {
            x.premise(A);
            x.premise(A);
            x.end();
        }
        same("18 of 33 of 16 theorems", x.thrift(), 18.0 / 33.0);
    }

    private static void digestOfAnEmptyNotebook() {
        part = "26: a number d starts with 419";
        long d = 419;
        for (int what = 0; what <= 8; what++) {
            d = d * 31 + 0;
        }
        due("digest", new ProofDesk().digest(), d);
    }

    private static void digestTakesEachNumberInItsOrder() {
        part = "26: count(), formulas, lines, boxes, theorems, the bytes of the paper";
        ProofDesk x = desk();
        due("formulas", x.digest(), summed(x));
        x.write(THEN);
        due("the paper", x.digest(), summed(x));
        feed(x, "a?", 0);
        due("the tape", x.digest(), summed(x));
        x.read();
        due("a tape that was read", x.digest(), summed(x));
        ProofDesk y = desk();
        y.premise(B);
        due("a line", y.digest(), summed(y));
        y.assume(A);
        due("an open box", y.digest(), summed(y));
        y.close();
        due("a closed box", y.digest(), summed(y));
        y.step(7, ATHENA, 0, 0, 0);
        due("a step", y.digest(), summed(y));
        ProofDesk z = proved();
        due("a theorem", z.digest(), summed(z));
        z.step(13, ATHENA, 0, 0, 0);
        due("a use of it", z.digest(), summed(z));
        z.undo();
        due("a use that was taken back", z.digest(), summed(z));
        z.write(ATHENA);
        due("the paper behind it", z.digest(), summed(z));
    }

    private static void digestWrapsAround() {
        part = "26: wraps around as a 64-bit integer";
        ProofDesk x = new ProofDesk();
        boolean below = false;
        boolean above = false;
        for (int k = 0; k < 8; k++) {
            x.make(0, k, 0);
            long d = x.digest();
            below |= d < 0;
            above |= d > Integer.MAX_VALUE;
            due("digest of " + (k + 1) + " letters", d, summed(x));
        }
        holds("a digest below 0", below);
        holds("a digest that is no int", above);
    }

    private static void digestChangesNothing() {
        part = "26: computes a checksum";
        ProofDesk x = proved();
        x.premise(A);
        x.assume(B);
        keeps("digest", x, x::digest);
        due("again", x.digest(), x.digest());
        ProofDesk y = proved();
        y.premise(A);
        y.assume(B);
        due("of another notebook with the same calls", y.digest(), x.digest());
    }

    private static void digestOfAllThatIsFull() {
        part = "26: 240 formulas, 60 lines, 60 boxes, 16 theorems, 400 bytes of paper";
        ProofDesk x = full();
        for (int k = 0; k < 16; k++) {
            x.premise(k);
            x.end();
        }
        for (int k = 0; k < 60; k++) {
            x.assume(0);
            x.close();
        }
        x.write(239);
        long d = 419;
        for (int count : new int[] {240, 0, 240, 60, 60, 0, 0, 16, 1}) {
            d = d * 31 + count;
        }
        for (int f = 0; f < 240; f++) {
            d = ((d * 31 + (f == 0 ? 0 : 2)) * 31 + Math.max(0, f - 1)) * 31 - 1;
        }
        for (int k = 0; k < 60; k++) {
            for (int told : new int[] {0, 14, 0, 0, 0, k, 0, k == 59 ? 1 : 0}) {
                d = d * 31 + told;
            }
        }
        for (int k = 0; k < 60; k++) {
            for (int told : new int[] {k, k, -1, 1}) {
                d = d * 31 + told;
            }
        }
        for (int k = 0; k < 16; k++) {
            for (int told : new int[] {k, 1, k, -1, 1, 1, 0}) {
                d = d * 31 + told;
            }
        }
        for (int k = 0; k < 240; k++) {
            d = d * 31 + (k < 239 ? '-' : 'a');
        }
        due("digest", x.digest(), d);
    }

    /** The last of 512 calls answers as the first ones do. */
    private static void callsUpTo512() {
        part = "an object is used for at most 512 calls after it has been made";
        ProofDesk x = new ProofDesk();
        int calls = 0;
        x.make(0, 0, 0);
        x.premise(0);
        calls += 2;
        for (int k = 0; calls < 508; k++) {
            due("step " + k, x.step(0, 0, 0, 0, 0), 0);
            due("undo " + k, x.undo(), 1);
            calls += 2;
        }
        due("call 509", x.step(4, x.make(4, 0, 0), 0, 0, 0), 0);
        due("call 511", x.hint(0, 1), 0);
        due("call 512, the digest", x.digest() == new ProofDesk().digest() ? 1 : 0, 0);
        ProofDesk y = new ProofDesk();
        for (int k = 0; k < 510; k++) {
            due("errorAt", y.errorAt(), -1);
        }
        due("call 511", y.make(0, 7, 0), 0);
        due("call 512", y.formula(0, 1), 7);
    }
}
