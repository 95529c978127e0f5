/** Promises 1 to 26, one by one: ordinary inputs, the edges that the document names, wrong inputs. */
public final class PromiseTest extends Checks {
    public static void main(String[] args) {
        newObject();
        feed();
        trim();
        read();
        readOrder();
        readErrors();
        readDepth();
        readFull();
        make();
        formula();
        formulaOfGreatSize();
        isTrue();
        write();
        writeLimits();
        begin();
        premise();
        assume();
        close();
        stepReferences();
        stepRules();
        stepTheorem();
        stepTheoremLetters();
        stepLimits();
        undo();
        count();
        lineAndNeeded();
        box();
        fails();
        hint();
        hintLeast();
        end();
        theorem();
        instance();
        instanceOfParts();
        thrift();
        digest();
        finish("the promises");
    }

    private static void newObject() {
        part = "1 a new object";
        ProofDesk x = new ProofDesk();
        for (int what = 0; what <= 8; what++) {
            due("count(" + what + ")", x.count(what), 0);
        }
        due("errorAt()", x.errorAt(), -1);
        long d = 419;
        for (int k = 0; k < 9; k++) {
            d *= 31;
        }
        due("digest()", x.digest(), d);
        x.make(0, 0, 0);
        due("another object's formulas", new ProofDesk().count(0), 0);
    }

    private static void feed() {
        part = "2 feed";
        ProofDesk x = new ProofDesk();
        due("feed", x.feed(word("a > ", 0), word("b | ", 0), word("c & ", 0), word("-d&#", 0), word("   h", 0)), 20);
        due("a byte too many", x.read(), -1);
        due("where", x.errorAt(), 19);
        for (int k = 1; k <= 20; k++) {
            due("feed", x.feed(word("    ", 0), word("    ", 0), word("    ", 0), word("    ", 0), word("    ", 0)), 20 * k);
        }
        thrown("feed beyond 400", x, STATE, () -> x.feed(0, 0, 0, 0, 0));
        x.trim(381);
        thrown("feed to 401", x, STATE, () -> x.feed(0, 0, 0, 0, 0));
        x.trim(380);
        due("feed to 400", x.feed(word("    ", 0), word("    ", 0), word("    ", 0), word("    ", 0), word(" f  ", 0)), 400);
        due("the letter at its end", x.read(), 0);
        due("is f", x.formula(0, 1), 5);
        x.feed(0xe1e1e1e1, 0, 0, 0, 0);
        due("a byte above 127", x.read(), -1);
        due("where", x.errorAt(), 0);
    }

    private static void trim() {
        part = "3 trim";
        ProofDesk x = new ProofDesk();
        due("trim(0) of an empty tape", x.trim(0), 0);
        thrown("trim(1) of an empty tape", x, ARGUMENT, () -> x.trim(1));
        tape(x, "a>b>c");
        thrown("trim(6)", x, ARGUMENT, () -> x.trim(6));
        thrown("trim(-1)", x, ARGUMENT, () -> x.trim(-1));
        thrown("trim(MIN)", x, ARGUMENT, () -> x.trim(MIN));
        thrown("trim(MAX)", x, ARGUMENT, () -> x.trim(MAX));
        due("trim(5)", x.trim(5), 5);
        due("trim(3)", x.trim(3), 3);
        due("bytes", x.count(1), 3);
        due("what is left", x.read(), 2);
        due("trim(0)", x.trim(0), 0);
    }

    private static void read() {
        part = "4 read";
        reads("a", 0);
        reads("#", 0);
        reads("  h  ", 0);
        reads("a>a", 1);
        reads("a>a>a", 2);
        reads(" - ( a & b ) ", 3);
        reads("((((((((((a))))))))))", 0);
        ProofDesk x = new ProofDesk();
        due("a letter", read(x, "b"), 0);
        due("what is known already", read(x, "(b)"), 0);
        due("with a new part", read(x, "b&c"), 2);
        due("again", read(x, " b & c "), 2);
        due("the other way", read(x, "c&b"), 3);
    }

    private static void readOrder() {
        part = "4 read, the order";
        ProofDesk x = new ProofDesk();
        due("read", read(x, "a|b&-c>d|#"), 9);
        int[][] want = {{0, 0, -1}, {0, 1, -1}, {0, 2, -1}, {2, 2, -1}, {3, 1, 3}, {4, 0, 4}, {0, 3, -1}, {1, -1, -1},
            {4, 6, 7}, {5, 5, 8}};
        for (int f = 0; f < want.length; f++) {
            for (int what = 0; what < 3; what++) {
                due("formula(" + f + ", " + what + ")", x.formula(f, what), want[f][what]);
            }
        }
        ProofDesk y = new ProofDesk();
        read(y, "a&b&c");
        due("and groups from the left", y.formula(4, 1), 2);
        read(y, "a|b|c");
        due("or groups from the left", y.formula(6, 1), 5);
        read(y, "a>b>c");
        due("then groups from the right", y.formula(8, 2), 7);
        due("no more formulas", y.count(0), 9);
    }

    private static void readErrors() {
        part = "4 and 5 read, error 1";
        refuses("", 0);
        refuses("   ", 3);
        refuses("a&", 2);
        refuses("a & ", 4);
        refuses("a b", 2);
        refuses("a)", 1);
        refuses("()", 1);
        refuses("(a", 2);
        refuses("(a b)", 3);
        refuses("a>>b", 2);
        refuses("a|&b", 2);
        refuses("&a", 0);
        refuses("a-b", 1);
        refuses("a(b)", 1);
        refuses("a#", 1);
        refuses("i", 0);
        refuses("A", 0);
        refuses("`", 0);
        refuses("a\tb", 1);
        refuses("-", 1);
        refuses("(a>b))", 5);
        refuses("((a)", 4);
        refuses("a&b>c|\u00e1", 6);
        ProofDesk x = new ProofDesk();
        due("errorAt of a new object", x.errorAt(), -1);
        read(x, "a&");
        due("errorAt", x.errorAt(), 2);
        tape(x, "a");
        due("errorAt with another tape", x.errorAt(), 2);
        x.read();
        due("errorAt behind a good one", x.errorAt(), -1);
        due("none of an error becomes known", read(x, "a&b&c)"), -1);
        due("but what was", x.count(0), 1);
        due("nor does one that was give its number away", read(x, "d"), 1);
        due("which is d", x.formula(1, 1), 3);
    }

    private static void readDepth() {
        part = "4 and 5 read, the depth";
        reads(times(10, "-") + "a", 10);
        refuses(times(11, "-") + "a", 11);
        refuses(times(11, "-"), 11);
        refuses(times(11, "-") + " ", 12);
        refuses(times(11, "-") + ")", 11);
        reads(times(10, "(") + "a" + times(10, ")"), 0);
        refuses(times(11, "(") + "a" + times(11, ")"), 11);
        refuses(times(11, "("), 11);
        reads(times(10, "a>") + "a", 10);
        refuses(times(11, "a>") + "a", 22);
        refuses(times(11, "a > ") + "a", 44);
        reads("a>a>a>a>a>-(a|-(a&-a))", 10);
        reads("a>a>a>(a>a>-(a>-a))", 8);
        refuses("a>a>a>(a>a>-(a>--a))", 17);
        refuses("a>a>a>(a>a>-(a>-(a)))", 17);
        reads(times(5, "-") + "(a>-(a>a))&" + times(10, "-") + "b", 20);
        refuses(times(6, "-") + "(a>-(a>a))&" + times(10, "-") + "b", 13);
        reads("(((((-----a>a)))))|" + times(10, "-") + "a", 12);
        reads("-(" + times(8, "a>") + "a)", 9);
        refuses("-(" + times(9, "a>") + "a)", 20);
        reads("(a>a)>(a>a)>" + times(8, "a>") + "a", 10);
        refuses("(a>a)>(a>a)>" + times(9, "a>") + "a", 30);
    }

    private static void readFull() {
        part = "4 and 5 read, error 2";
        ProofDesk x = full();
        due("what is known", read(x, "-a"), 1);
        due("errorAt", x.errorAt(), -1);
        due("one more", read(x, "a&a"), -2);
        due("errorAt", x.errorAt(), 0);
        due("formulas", x.count(0), 240);
        due("the tape", x.count(1), 0);
        due("error 1 goes ahead", read(x, "a&b)"), -1);
        due("errorAt", x.errorAt(), 3);
        ProofDesk y = new ProofDesk();
        y.make(0, 0, 0);
        for (int k = 0; k < 236; k++) {
            y.make(2, k, 0);
        }
        due("four more, there is place for three", read(y, "b&(c|a)"), -2);
        due("formulas", y.count(0), 237);
        due("three more", read(y, "b&b&a"), 239);
        due("formulas", y.count(0), 240);
    }

    private static void make() {
        part = "6 make";
        ProofDesk x = new ProofDesk();
        thrown("a not of nothing", x, INDEX, () -> x.make(2, 0, 0));
        due("a", x.make(0, 0, 99), 0);
        due("h", x.make(0, 7, -5), 1);
        due("#", x.make(1, 99, -99), 2);
        due("-a", x.make(2, 0, 77), 3);
        due("a&h", x.make(3, 0, 1), 4);
        due("a|h", x.make(4, 0, 1), 5);
        due("a>h", x.make(5, 0, 1), 6);
        due("h>a", x.make(5, 1, 0), 7);
        due("a again", x.make(0, 0, 5), 0);
        due("# again", x.make(1, 0, 0), 2);
        due("-a again", x.make(2, 0, 0), 3);
        due("a>h again", x.make(5, 0, 1), 6);
        due("formulas", x.count(0), 8);
        due("sort", x.formula(3, 0), 2);
        due("second part of a not", x.formula(3, 2), -1);
        thrown("sort -1", x, ARGUMENT, () -> x.make(-1, 0, 0));
        thrown("sort 6", x, ARGUMENT, () -> x.make(6, 0, 0));
        thrown("sort 6 ahead of parts", x, ARGUMENT, () -> x.make(6, 99, 99));
        thrown("letter 8", x, ARGUMENT, () -> x.make(0, 8, 0));
        thrown("letter -1", x, ARGUMENT, () -> x.make(0, -1, 0));
        thrown("first part", x, INDEX, () -> x.make(2, 8, 0));
        thrown("first part MIN", x, INDEX, () -> x.make(3, MIN, 0));
        thrown("second part", x, INDEX, () -> x.make(3, 0, 8));
        thrown("second part", x, INDEX, () -> x.make(4, 0, -1));
        thrown("second part MAX", x, INDEX, () -> x.make(5, 0, MAX));
        ProofDesk y = full();
        due("what is known", y.make(2, 5, 0), 6);
        thrown("a letter too many", y, STATE, () -> y.make(0, 1, 0));
        thrown("an and too many", y, STATE, () -> y.make(3, 0, 0));
        thrown("the part goes ahead", y, INDEX, () -> y.make(3, 0, 240));
        thrown("the sort goes ahead", y, ARGUMENT, () -> y.make(0, 8, 0));
    }

    private static void formula() {
        part = "7 formula";
        ProofDesk x = new ProofDesk();
        due("read", read(x, "(a>#)&-(h|a)&a"), 7);
        int[][] want = {{0, 0, -1, 1, 128, 1}, {1, -1, -1, 0, 0, 1}, {5, 0, 1, 1, 128, 3}, {0, 7, -1, 128, 128, 1},
            {4, 3, 0, 129, 192, 3}, {2, 4, -1, 129, 64, 4}, {3, 2, 5, 129, 64, 8}, {3, 6, 0, 129, 0, 10}};
        for (int f = 0; f < want.length; f++) {
            for (int what = 0; what < 6; what++) {
                due("formula(" + f + ", " + what + ")", x.formula(f, what), want[f][what]);
            }
        }
        thrown("formula 8", x, INDEX, () -> x.formula(8, 0));
        thrown("formula -1", x, INDEX, () -> x.formula(-1, 0));
        thrown("formula MIN", x, INDEX, () -> x.formula(MIN, 0));
        thrown("what 6", x, INDEX, () -> x.formula(0, 6));
        thrown("what -1", x, INDEX, () -> x.formula(0, -1));
        ProofDesk y = new ProofDesk();
        due("all letters", read(y, "a&b&c&d&e&f&g&h"), 14);
        due("their set", y.formula(14, 3), 255);
        due("true once", y.formula(14, 4), 1);
        due("all letters", read(y, "a|b|c|d|e|f|g|h"), 21);
        due("false once", y.formula(21, 4), 255);
        due("true always", y.formula(read(y, "g>g"), 4), 256);
    }

    private static void formulaOfGreatSize() {
        part = "7 formula, the size";
        ProofDesk x = new ProofDesk();
        x.make(0, 0, 0);
        int size = 1;
        for (int k = 0; k < 239; k++) {
            x.make(3, k, k);
            size = Math.min(1000000, 2 * size + 1);
            due("size of " + (k + 1), x.formula(k + 1, 5), size);
        }
        due("letters", x.formula(239, 3), 1);
        due("true", x.formula(239, 4), 128);
        ProofDesk y = new ProofDesk();
        y.make(0, 0, 0);
        for (int k = 0; k < 18; k++) {
            y.make(4, k, k);
        }
        due("2^19 - 1", y.formula(18, 5), 524287);
        int f = 18;
        for (int k = 17; k >= 0; k--) {
            if ((475711 >> k & 1) != 0 && y.formula(f, 5) + y.formula(k, 5) < 1000000) {
                f = y.make(4, f, k);
            }
        }
        int near = y.formula(f, 5);
        for (int n = 0; n < 100 && near < 999999; n++) {
            int less = 0;
            while (less < 18 && near + 1 + y.formula(less + 1, 5) <= 999999) {
                less++;
            }
            f = near + 1 + y.formula(less, 5) <= 999999 ? y.make(4, f, less) : y.make(2, f, 0);
            near = y.formula(f, 5);
        }
        due("a size below the bound", near, 999999);
        due("a size at the bound", y.formula(y.make(2, f, 0), 5), 1000000);
        due("a size beyond it", y.formula(y.make(3, f, 0), 5), 1000000);
    }

    private static void isTrue() {
        part = "8 isTrue";
        for (int k = 0; k < 8; k++) {
            ProofDesk y = new ProofDesk();
            int f = y.make(0, k, 0);
            for (int set = 0; set < 256; set++) {
                due("letter " + k + " for " + set, y.isTrue(f, set) ? 1 : 0, set >> k & 1);
            }
        }
        // A new object now and then: one is used for at most 512 calls.
        for (int from = 0; from < 256; from += 64) {
            ProofDesk y = new ProofDesk();
            y.make(0, 2, 0);
            y.make(0, 6, 0);
            y.make(0, 7, 0);
            int then = y.make(5, 0, 1);
            int and = y.make(3, 0, 1);
            int or = y.make(4, 0, 1);
            int not = y.make(2, 2, 0);
            int no = y.make(1, 0, 0);
            for (int set = from; set < from + 64; set++) {
                boolean c = (set & 4) != 0;
                boolean g = (set & 64) != 0;
                due("c>g", y.isTrue(then, set) ? 1 : 0, c && !g ? 0 : 1);
                due("c&g", y.isTrue(and, set) ? 1 : 0, c && g ? 1 : 0);
                due("c|g", y.isTrue(or, set) ? 1 : 0, c || g ? 1 : 0);
                due("-h", y.isTrue(not, set) ? 1 : 0, set < 128 ? 1 : 0);
                due("#", y.isTrue(no, set) ? 1 : 0, 0);
            }
        }
        ProofDesk x = new ProofDesk();
        for (int k = 0; k < 13; k++) {
            x.make(k < 8 ? 0 : 2, k < 8 ? k : k - 1, 0);
        }
        thrown("no formula", x, INDEX, () -> x.isTrue(13, 0));
        thrown("no formula", x, INDEX, () -> x.isTrue(-1, 0));
        thrown("the formula goes ahead", x, INDEX, () -> x.isTrue(MAX, 256));
        thrown("set 256", x, ARGUMENT, () -> x.isTrue(0, 256));
        thrown("set -1", x, ARGUMENT, () -> x.isTrue(0, -1));
        thrown("set MIN", x, ARGUMENT, () -> x.isTrue(0, MIN));
    }

    private static void write() {
        part = "9 write";
        String[] plain = {"a", "#", "--h", "-(a&b)", "-(a|b)", "-(a>b)", "-a&-b", "-a|-b", "-a>-#", "a&b&c", "a&(b&c)",
            "(a|b)&c", "a&(b|c)", "(a>b)&c", "a&(b>c)", "a|b|c", "a|(b|c)", "a&b|c&d", "a|b&c", "(a>b)|c", "a|(b>c)",
            "a>b>c", "(a>b)>c", "a|b>c|d", "a&b>c&d", "-(a&-(b|-(c>-d)))", "((a>b)>c)>d", "a&(b&(c&d))"};
        for (String text : plain) {
            writes(text, text);
        }
        writes(" ( a ) ", "a");
        writes("(a&b)&c", "a&b&c");
        writes("(a&b)|(c&d)", "a&b|c&d");
        writes("a>(b>c)", "a>b>c");
        writes("(a|b)>(c|d)", "a|b>c|d");
        writes("-(-(a))", "--a");
        writes("(-a)&(b)", "-a&b");
        writes("(a|b)|c", "a|b|c");
        part = "10 byteAt";
        ProofDesk x = new ProofDesk();
        thrown("an empty paper", x, INDEX, () -> x.byteAt(0));
        x.write(read(x, "a>b"));
        due("byte 0", x.byteAt(0), 'a');
        due("byte 1", x.byteAt(1), '>');
        due("byte 2", x.byteAt(2), 'b');
        thrown("place 3", x, INDEX, () -> x.byteAt(3));
        thrown("place -1", x, INDEX, () -> x.byteAt(-1));
        thrown("place MAX", x, INDEX, () -> x.byteAt(MAX));
        due("a shorter one in its place", x.write(0), 1);
        due("its size", x.count(2), 1);
        thrown("what was there", x, INDEX, () -> x.byteAt(1));
    }

    private static void writeLimits() {
        part = "9 write, the limits";
        ProofDesk x = new ProofDesk();
        thrown("no formula", x, INDEX, () -> x.write(0));
        x.make(0, 4, 0);
        thrown("no formula", x, INDEX, () -> x.write(1));
        thrown("no formula", x, INDEX, () -> x.write(-1));
        for (int k = 0; k < 200; k++) {
            x.make(3, k, 0);
        }
        due("399 bytes", x.write(199), 399);
        due("the last", x.byteAt(398), 'e');
        int denied = x.make(2, x.make(2, 0, 0), 0);
        int nearly = x.make(3, 198, x.make(2, 0, 0));
        due("398 bytes and 2", x.write(nearly), 400);
        due("the last but one", x.byteAt(398), '-');
        thrown("401 bytes", x, STATE, () -> x.write(200));
        int beyond = x.make(3, 198, denied);
        thrown("401 bytes with two nots", x, STATE, () -> x.write(beyond));
        due("the paper stays", x.count(2), 400);
        ProofDesk y = full();
        due("a deep one", y.write(239), 240);
        due("its first byte", y.byteAt(0), '-');
        due("its last byte", y.byteAt(239), 'a');
        ProofDesk z = new ProofDesk();
        z.make(0, 0, 0);
        for (int k = 0; k < 230; k++) {
            z.make(3, k, k);
        }
        thrown("a huge one", z, STATE, () -> z.write(230));
        thrown("one that is a little too long", z, STATE, () -> z.write(8));
        due("2^6 letters", z.write(6), 64 + 63 + 2 * (32 - 1) + 0);
    }

    private static void begin() {
        part = "11 begin";
        ProofDesk x = new ProofDesk();
        due("without lines", x.begin(), 0);
        int a = x.make(0, 0, 0);
        x.premise(a);
        x.assume(a);
        x.assume(a);
        x.close();
        due("three lines", x.begin(), 3);
        for (int what = 3; what <= 8; what++) {
            due("count(" + what + ")", x.count(what), 0);
        }
        due("the formula stays", x.count(0), 1);
        thrown("nothing to take back", x, STATE, x::undo);
        thrown("no box", x, STATE, x::close);
        due("a premise again", x.premise(a), 0);
        due("line in no box", x.line(0, 5), -1);
        due("one line", x.begin(), 1);
        due("an assumption", x.assume(a), 0);
        due("box 0 again", x.line(0, 5), 0);
    }

    private static void premise() {
        part = "12 premise";
        ProofDesk x = new ProofDesk();
        thrown("no formula", x, INDEX, () -> x.premise(0));
        int a = x.make(0, 0, 0);
        int b = x.make(0, 1, 0);
        due("the first", x.premise(b), 0);
        due("the second", x.premise(a), 1);
        lineIs(x, 0, b, 15, 0, 0, 0, -1, 1, 0);
        lineIs(x, 1, a, 15, 0, 0, 0, -1, 1, 1);
        thrown("a third", x, STATE, () -> x.premise(a));
        thrown("the formula goes ahead", x, INDEX, () -> x.premise(2));
        thrown("no formula", x, INDEX, () -> x.premise(-1));
        x.undo();
        due("one premise", x.count(6), 1);
        steps(x, 0, 0, b, 0, 0, 0);
        thrown("behind a step", x, STATE, () -> x.premise(a));
        x.undo();
        due("ahead of it", x.premise(b), 1);
        x.begin();
        x.assume(a);
        x.close();
        thrown("behind a box", x, STATE, () -> x.premise(a));
    }

    private static void assume() {
        part = "13 assume";
        ProofDesk x = new ProofDesk();
        thrown("no formula", x, INDEX, () -> x.assume(0));
        int a = x.make(0, 0, 0);
        for (int k = 0; k < 6; k++) {
            due("assume", x.assume(a), k);
            lineIs(x, k, a, 14, 0, 0, 0, k, 1, 1);
            due("around it", x.box(k, 2), k - 1);
        }
        thrown("a seventh open box", x, STATE, () -> x.assume(a));
        thrown("the formula goes ahead", x, INDEX, () -> x.assume(1));
        x.close();
        due("one instead", x.assume(a), 6);
        due("its box", x.line(6, 5), 6);
        due("around it", x.box(6, 2), 4);
        x.begin();
        for (int k = 0; k < 60; k++) {
            x.assume(a);
            x.close();
        }
        thrown("line 60", x, STATE, () -> x.assume(a));
        due("boxes", x.count(4), 60);
    }

    private static void close() {
        part = "14 close";
        ProofDesk x = new ProofDesk();
        thrown("nothing open", x, STATE, x::close);
        int a = x.make(0, 0, 0);
        x.assume(a);
        x.assume(a);
        steps(x, 0, 0, a, 0, 0, 0);
        x.assume(a);
        due("box 2", x.close(), 2);
        due("its last line", x.box(2, 1), 3);
        due("box 1", x.close(), 1);
        due("its last line is in no box within it", x.box(1, 1), 2);
        due("box 0", x.close(), 0);
        due("its last line", x.box(0, 1), 0);
        thrown("nothing open", x, STATE, x::close);
    }

    private static void stepReferences() {
        part = "15 step, the references";
        ProofDesk x = new ProofDesk();
        int a = x.make(0, 0, 0);
        int b = x.make(0, 1, 0);
        int ab = x.make(3, a, b);
        x.premise(a);
        steps(x, 1, 0, a, 1, 0, 0);
        steps(x, 1, 0, a, -1, 0, 0);
        steps(x, 1, 0, a, MIN, 0, 0);
        steps(x, 1, 0, a, MAX, 0, 0);
        steps(x, 0, 0, a, 0, -7, MAX);
        lineIs(x, 1, a, 0, 0, 0, 0, -1, 1, 1);
        x.assume(b);
        steps(x, 0, 1, ab, 1, 2, 9);
        lineIs(x, 3, ab, 1, 1, 2, 0, 0, 1, 1);
        steps(x, 1, 7, ab, 0, 0, 0);
        x.close();
        steps(x, 1, 1, ab, 0, 2, 0);
        steps(x, 1, 2, a, 3, 0, 0);
        steps(x, 1, 2, a, 4, 0, 0);
        steps(x, 2, 2, a, 0, 0, 0);
        steps(x, 1, 7, a, 1, 0, 0);
        steps(x, 3, 7, a, 0, 0, 0);
        steps(x, 0, 7, x.make(5, b, ab), 0, 5, 6);
        lineIs(x, 4, x.make(5, b, ab), 7, 0, 0, 0, -1, 1, 1);
        x.assume(a);
        steps(x, 0, 7, x.make(5, b, ab), 0, 0, 0);
        x.assume(b);
        x.close();
        steps(x, 0, 7, x.make(5, b, b), 2, 0, 0);
        x.close();
        steps(x, 1, 7, x.make(5, b, b), 2, 0, 0);
        steps(x, 1, 13, a, 0, 0, 0);
    }

    private static void stepRules() {
        part = "15 step, the rules";
        ProofDesk x = new ProofDesk();
        int a = x.make(0, 0, 0);
        int b = x.make(0, 1, 0);
        int and = x.make(3, a, b);
        int or = x.make(4, a, b);
        int then = x.make(5, a, b);
        int no = x.make(1, 0, 0);
        int not = x.make(2, a, 0);
        int notnot = x.make(2, not, 0);
        int aa = x.make(3, a, a);
        x.premise(and);
        x.premise(or);
        steps(x, 3, 0, a, 0, 0, 0);
        steps(x, 0, 0, and, 0, 0, 0);
        steps(x, 2, 2, a, 1, 0, 0);
        steps(x, 3, 2, b, 0, 0, 0);
        steps(x, 0, 2, a, 0, 0, 0);
        steps(x, 2, 3, a, 3, 0, 0);
        steps(x, 3, 3, a, 0, 0, 0);
        steps(x, 0, 3, b, 0, 0, 0);
        steps(x, 0, 1, and, 3, 4, 0);
        steps(x, 3, 1, and, 4, 3, 0);
        steps(x, 0, 1, aa, 3, 3, 0);
        steps(x, 3, 1, or, 3, 4, 0);
        steps(x, 0, 4, or, 3, 0, 0);
        steps(x, 3, 4, or, 4, 0, 0);
        steps(x, 3, 4, and, 3, 0, 0);
        steps(x, 0, 5, or, 4, 0, 0);
        steps(x, 3, 5, or, 3, 0, 0);
        steps(x, 3, 5, and, 4, 0, 0);
        x.assume(not);
        steps(x, 0, 10, no, 3, 9, 0);
        steps(x, 2, 10, no, 9, 3, 0);
        steps(x, 3, 10, no, 4, 9, 0);
        steps(x, 3, 10, a, 3, 9, 0);
        steps(x, 1, 10, no, 3, 11, 0);
        steps(x, 0, 11, then, 10, 0, 0);
        steps(x, 2, 11, then, 9, 0, 0);
        steps(x, 1, 11, then, 99, 0, 0);
        steps(x, 0, 0, no, 10, 0, 0);
        x.close();
        steps(x, 3, 9, no, 0, 0, 0);
        steps(x, 3, 9, not, 0, 0, 0);
        steps(x, 0, 9, notnot, 0, 0, 0);
        steps(x, 3, 7, then, 0, 0, 0);
        steps(x, 0, 7, x.make(5, not, no), 0, 0, 0);
        steps(x, 0, 12, a, 13, 0, 0);
        steps(x, 3, 12, b, 13, 0, 0);
        steps(x, 2, 12, a, 3, 0, 0);
        x.assume(not);
        steps(x, 2, 12, a, 16, 0, 0);
        x.close();
        steps(x, 2, 9, notnot, 1, 0, 0);
        x.assume(then);
        steps(x, 0, 8, b, 17, 3, 0);
        steps(x, 2, 8, b, 3, 17, 0);
        steps(x, 3, 8, a, 17, 3, 0);
        steps(x, 3, 8, b, 17, 4, 0);
        steps(x, 1, 8, b, 17, 99, 0);
        x.close();
        steps(x, 1, 8, b, 17, 3, 0);
        cases(x, a, b, or, and);
    }

    private static void cases(ProofDesk x, int a, int b, int or, int and) {
        int ro = x.make(4, b, a);
        int first = x.count(4);
        x.assume(a);
        steps(x, 0, 5, ro, x.count(3) - 1, 0, 0);
        x.close();
        x.assume(b);
        steps(x, 0, 4, ro, x.count(3) - 1, 0, 0);
        x.close();
        x.assume(b);
        x.close();
        steps(x, 0, 6, ro, 1, first, first + 1);
        int line = x.count(3) - 1;
        lineIs(x, line, ro, 6, 1, first, first + 1, -1, 1, 1);
        steps(x, 3, 6, ro, 1, first + 1, first);
        steps(x, 3, 6, or, 1, first, first + 1);
        steps(x, 3, 6, ro, 1, first, first + 2);
        steps(x, 3, 6, b, 1, first, first + 2);
        steps(x, 2, 6, ro, 0, first, first + 1);
        steps(x, 1, 6, ro, 99, first, first + 1);
        steps(x, 1, 6, ro, 1, 99, first + 1);
        steps(x, 1, 6, ro, 1, first, first + 3);
        steps(x, 1, 6, ro, 0, first, -1);
        x.assume(and);
        steps(x, 1, 6, ro, 1, first, first + 3);
    }

    private static void stepTheorem() {
        part = "15 step, the theorems";
        ProofDesk x = new ProofDesk();
        int a = x.make(0, 0, 0);
        int b = x.make(0, 1, 0);
        int then = x.make(5, a, b);
        x.premise(a);
        x.premise(then);
        steps(x, 0, 8, b, 1, 0, 0);
        due("theorem 0: a, a>b / b", x.end(), 0);
        int c = x.make(0, 2, 0);
        int not = x.make(2, c, 0);
        int cnot = x.make(5, c, not);
        x.premise(cnot);
        x.premise(c);
        steps(x, 1, 13, not, 1, 1, 0);
        steps(x, 1, 13, not, -1, 1, 0);
        steps(x, 1, 13, not, 0, 2, 0);
        steps(x, 1, 13, not, 0, 1, 2);
        steps(x, 1, 13, not, 0, 1, -1);
        steps(x, 3, 13, not, 0, 0, 1);
        steps(x, 3, 13, c, 0, 1, 0);
        due("refused ones are no use", x.theorem(0, 6), 0);
        steps(x, 0, 13, not, 0, 1, 0);
        lineIs(x, 2, not, 13, 0, 1, 0, -1, 1, 1);
        due("used", x.theorem(0, 6), 1);
        due("theorem 1", x.end(), 1);
        x.premise(c);
        steps(x, 0, 4, x.make(4, c, c), 0, 0, 0);
        due("theorem 2: c / c|c", x.end(), 2);
        x.premise(then);
        steps(x, 3, 13, x.make(4, then, a), 2, 0, 0);
        steps(x, 3, 13, then, 2, 0, 0);
        steps(x, 0, 13, x.make(4, then, then), 2, 0, 77);
        lineIs(x, 1, x.make(4, then, then), 13, 2, 0, 0, -1, 1, 1);
        steps(x, 1, 13, x.make(4, then, then), 2, 3, 0);
        steps(x, 0, 13, x.make(4, then, then), 2, 0, 1);
        lineIs(x, 2, x.make(4, then, then), 13, 2, 0, 0, -1, 1, 1);
        steps(x, 3, 13, x.make(4, then, then), 2, 1, 1);
        x.assume(then);
        x.close();
        steps(x, 1, 13, x.make(4, then, then), 2, 3, 0);
        x.begin();
        x.assume(a);
        x.close();
        steps(x, 0, 7, x.make(5, a, a), 0, 0, 0);
        due("theorem 3: a>a", x.end(), 3);
        steps(x, 0, 13, x.make(5, then, then), 3, 4, 5);
        lineIs(x, 0, x.make(5, then, then), 13, 3, 0, 0, -1, 1, 1);
    }

    private static void stepTheoremLetters() {
        part = "15 step, the letters of theorems";
        ProofDesk x = new ProofDesk();
        int a = x.make(0, 0, 0);
        int b = x.make(0, 1, 0);
        int no = x.make(1, 0, 0);
        x.assume(a);
        x.assume(b);
        steps(x, 0, 0, a, 0, 0, 0);
        x.close();
        steps(x, 0, 7, x.make(5, b, a), 0 + 1, 0, 0);
        x.close();
        int k = x.make(5, a, x.make(5, b, a));
        steps(x, 0, 7, k, 0, 0, 0);
        due("theorem 0: a>b>a", x.end(), 0);
        steps(x, 0, 13, k, 0, 9, 9);
        lineIs(x, 0, k, 13, 0, 0, 0, -1, 1, 1);
        steps(x, 0, 13, x.make(5, b, x.make(5, a, b)), 0, 0, 0);
        steps(x, 0, 13, x.make(5, b, x.make(5, b, b)), 0, 0, 0);
        steps(x, 0, 13, x.make(5, k, x.make(5, no, k)), 0, 0, 0);
        steps(x, 3, 13, x.make(5, b, x.make(5, a, a)), 0, 0, 0);
        steps(x, 3, 13, x.make(5, a, b), 0, 0, 0);
        steps(x, 3, 13, a, 0, 0, 0);
        x.begin();
        x.assume(no);
        steps(x, 0, 11, a, 0, 0, 0);
        x.close();
        steps(x, 0, 7, x.make(5, no, a), 0, 0, 0);
        due("theorem 1: #>a", x.end(), 1);
        steps(x, 0, 13, x.make(5, no, no), 1, 0, 0);
        steps(x, 3, 13, x.make(5, a, a), 1, 0, 0);
        x.begin();
        x.premise(a);
        x.premise(a);
        due("theorem 2: a, a / a", x.end(), 2);
        x.premise(a);
        x.premise(b);
        steps(x, 0, 13, b, 2, 1, 1);
        steps(x, 3, 13, b, 2, 1, 0);
        steps(x, 3, 13, b, 2, 0, 1);
    }

    private static void stepLimits() {
        part = "15 step, the limits";
        ProofDesk x = new ProofDesk();
        thrown("rule 14", x, ARGUMENT, () -> x.step(14, 0, 0, 0, 0));
        thrown("rule 15", x, ARGUMENT, () -> x.step(15, 0, 0, 0, 0));
        thrown("rule -1", x, ARGUMENT, () -> x.step(-1, 0, 0, 0, 0));
        thrown("rule MIN", x, ARGUMENT, () -> x.step(MIN, 0, 0, 0, 0));
        thrown("no formula", x, INDEX, () -> x.step(0, 0, 0, 0, 0));
        int a = x.make(0, 0, 0);
        thrown("no formula", x, INDEX, () -> x.step(13, 1, 0, 0, 0));
        thrown("no formula", x, INDEX, () -> x.step(13, -1, 0, 0, 0));
        x.premise(a);
        for (int k = 1; k < 60; k++) {
            x.step(0, a, k - 1, 0, 0);
        }
        due("lines", x.count(3), 60);
        thrown("line 60", x, STATE, () -> x.step(0, a, 0, 0, 0));
        thrown("line 60, refused or not", x, STATE, () -> x.step(0, a, 99, 0, 0));
        thrown("the formula goes ahead", x, INDEX, () -> x.step(0, 1, 0, 0, 0));
        thrown("the rule goes ahead", x, ARGUMENT, () -> x.step(14, 1, 0, 0, 0));
        due("all needed", x.count(8), 60);
    }

    private static void undo() {
        part = "16 undo";
        ProofDesk x = new ProofDesk();
        thrown("nothing was done", x, STATE, x::undo);
        int a = x.make(0, 0, 0);
        int aa = x.make(5, a, a);
        long[] stages = new long[9];
        stages[0] = x.digest();
        x.premise(a);
        stages[1] = x.digest();
        x.assume(a);
        stages[2] = x.digest();
        x.assume(a);
        stages[3] = x.digest();
        x.step(0, a, 0, 0, 0);
        stages[4] = x.digest();
        x.close();
        stages[5] = x.digest();
        x.step(7, aa, 1, 0, 0);
        stages[6] = x.digest();
        x.close();
        stages[7] = x.digest();
        x.step(0, a, 0, 0, 0);
        int[] lines = {0, 1, 2, 3, 4, 4, 5, 5};
        for (int k = 7; k >= 0; k--) {
            due("undo", x.undo(), lines[k]);
            due("digest at " + k, x.digest(), stages[k]);
        }
        thrown("nothing is left", x, STATE, x::undo);
        x.assume(a);
        x.close();
        x.undo();
        due("it is open again", x.count(5), 1);
        due("its last line", x.box(0, 1), -1);
        steps(x, 0, 0, a, 0, 0, 0);
        due("in this box", x.line(1, 5), 0);
        due("closed again", x.close(), 0);
        due("its last line", x.box(0, 1), 1);
        x.step(7, aa, 0, 0, 0);
        x.end();
        thrown("a proof that was ended", x, STATE, x::undo);
    }

    private static void count() {
        part = "17 count";
        ProofDesk x = new ProofDesk();
        thrown("what 9", x, INDEX, () -> x.count(9));
        thrown("what -1", x, INDEX, () -> x.count(-1));
        thrown("what MAX", x, INDEX, () -> x.count(MAX));
        int a = x.make(0, 0, 0);
        int aa = x.make(5, a, a);
        x.premise(a);
        x.end();
        tape(x, "a>a>");
        x.write(aa);
        x.premise(a);
        x.premise(aa);
        x.assume(a);
        x.assume(aa);
        x.close();
        x.step(0, a, 2, 0, 0);
        int[] want = {2, 4, 3, 5, 2, 1, 2, 1, 2};
        for (int what = 0; what < want.length; what++) {
            due("count(" + what + ")", x.count(what), want[what]);
        }
    }

    private static void lineAndNeeded() {
        part = "18 line";
        ProofDesk x = new ProofDesk();
        thrown("no line", x, INDEX, () -> x.line(0, 0));
        int a = x.make(0, 0, 0);
        int b = x.make(0, 1, 0);
        int bab = x.make(5, b, a);
        x.premise(a);
        x.premise(b);
        x.assume(b);
        x.step(0, b, 1, 0, 0);
        x.step(0, a, 0, 0, 0);
        x.assume(a);
        x.step(0, b, 3, 0, 0);
        due("inner lines", x.line(6, 5), 1);
        due("the outer one can be referred to", x.line(3, 6), 1);
        x.close();
        due("the inner ones cannot", x.line(6, 6), 0);
        due("the outer ones can", x.line(4, 6), 1);
        x.step(0, a, 4, 0, 0);
        x.close();
        due("none of the box can", x.line(4, 6), 0);
        due("a premise can", x.line(1, 6), 1);
        x.step(7, bab, 0, 0, 0);
        int[] needed = {1, 0, 1, 0, 1, 0, 0, 1, 1};
        for (int k = 0; k < needed.length; k++) {
            due("line(" + k + ", 7)", x.line(k, 7), needed[k]);
        }
        due("how many", x.count(8), 5);
        thrown("line 9", x, INDEX, () -> x.line(9, 0));
        thrown("line -1", x, INDEX, () -> x.line(-1, 0));
        thrown("line MIN", x, INDEX, () -> x.line(MIN, 0));
        thrown("what 8", x, INDEX, () -> x.line(0, 8));
        thrown("what -1", x, INDEX, () -> x.line(0, -1));
        x.step(0, b, 1, 0, 0);
        due("the latest one alone, with its reference", x.count(8), 2);
        due("line(0, 7)", x.line(0, 7), 0);
        x.assume(a);
        due("an assumption needs nothing", x.count(8), 1);
    }

    private static void box() {
        part = "19 box";
        ProofDesk x = new ProofDesk();
        thrown("no box", x, INDEX, () -> x.box(0, 0));
        int a = x.make(0, 0, 0);
        x.premise(a);
        x.assume(a);
        x.assume(a);
        x.step(0, a, 0, 0, 0);
        x.close();
        x.assume(a);
        int[][] want = {{1, -1, -1, 0}, {2, 3, 0, 1}, {4, -1, 0, 0}};
        boxesAre(x, want);
        x.close();
        x.step(0, a, 0, 0, 0);
        x.close();
        boxesAre(x, new int[][] {{1, 5, -1, 1}, {2, 3, 0, 0}, {4, 4, 0, 0}});
        thrown("box 3", x, INDEX, () -> x.box(3, 0));
        thrown("box -1", x, INDEX, () -> x.box(-1, 0));
        thrown("box MAX", x, INDEX, () -> x.box(MAX, 0));
        thrown("what 4", x, INDEX, () -> x.box(0, 4));
        thrown("what -1", x, INDEX, () -> x.box(0, -1));
    }

    private static void boxesAre(ProofDesk x, int[][] want) {
        for (int box = 0; box < want.length; box++) {
            for (int what = 0; what < 4; what++) {
                due("box(" + box + ", " + what + ")", x.box(box, what), want[box][what]);
            }
        }
    }

    private static void fails() {
        part = "20 fails";
        ProofDesk x = new ProofDesk();
        thrown("no line", x, INDEX, () -> x.fails(0));
        int a = x.make(0, 0, 0);
        int h = x.make(0, 7, 0);
        int or = x.make(4, h, a);
        x.premise(a);
        due("a premise never fails", x.fails(0), 0);
        x.assume(h);
        due("an assumption never fails", x.fails(1), 0);
        x.step(4, or, 1, 0, 0);
        due("a step", x.fails(2), 0);
        x.close();
        due("behind the box", x.fails(2), 0);
        x.assume(h);
        x.assume(or);
        x.assume(h);
        x.step(0, a, 0, 0, 0);
        x.step(0, h, 3, 0, 0);
        x.step(1, x.make(3, a, h), 6, 7, 0);
        for (int k = 3; k < 9; k++) {
            due("within boxes " + k, x.fails(k), 0);
        }
        x.begin();
        x.assume(h);
        x.assume(a);
        x.step(0, h, 0, 0, 0);
        due("by the assumption of the outer box", x.fails(2), 0);
        x.begin();
        x.premise(h);
        x.premise(a);
        x.assume(or);
        x.step(0, h, 0, 0, 0);
        x.step(0, a, 1, 0, 0);
        due("by the first premise", x.fails(3), 0);
        due("by the second premise", x.fails(4), 0);
        thrown("line 5", x, INDEX, () -> x.fails(5));
        thrown("line -1", x, INDEX, () -> x.fails(-1));
        thrown("line MIN", x, INDEX, () -> x.fails(MIN));
    }

    private static void hint() {
        part = "21 hint";
        ProofDesk x = new ProofDesk();
        thrown("no formula", x, INDEX, () -> x.hint(0, 0));
        int a = x.make(0, 0, 0);
        int b = x.make(0, 1, 0);
        int no = x.make(1, 0, 0);
        int and = x.make(3, a, b);
        int or = x.make(4, a, b);
        int ro = x.make(4, b, a);
        int then = x.make(5, a, b);
        int not = x.make(2, a, 0);
        int notnot = x.make(2, not, 0);
        thrown("formula 9", x, INDEX, () -> x.hint(9, 0));
        thrown("which 4", x, INDEX, () -> x.hint(0, 4));
        thrown("which -1", x, INDEX, () -> x.hint(0, -1));
        noHint(x, a);
        x.premise(a);
        x.premise(b);
        hintIs(x, b, 0, 1, 0, 0);
        hintIs(x, and, 1, 0, 1, 0);
        hintIs(x, or, 4, 0, 0, 0);
        noHint(x, then);
        x.begin();
        x.premise(and);
        hintIs(x, a, 2, 0, 0, 0);
        hintIs(x, b, 3, 0, 0, 0);
        noHint(x, or);
        x.begin();
        x.premise(a);
        hintIs(x, ro, 5, 0, 0, 0);
        x.assume(b);
        noHint(x, then);
        x.close();
        noHint(x, then);
        hintIs(x, x.make(5, b, b), 7, 0, 0, 0);
        x.assume(a);
        x.assume(then);
        hintIs(x, b, 8, 3, 0, 0);
        x.begin();
        x.assume(a);
        x.assume(no);
        hintIs(x, then, 11, 1, 0, 0);
        hintIs(x, b, 11, 1, 0, 0);
        x.close();
        x.close();
        noHint(x, not);
        x.assume(a);
        x.assume(not);
        hintIs(x, no, 10, 2, 3, 0);
        x.step(10, no, 2, 3, 0);
        x.close();
        hintIs(x, notnot, 9, 3, 0, 0);
        x.begin();
        x.premise(notnot);
        hintIs(x, a, 12, 0, 0, 0);
        noHint(x, not);
    }

    private static void hintLeast() {
        part = "21 hint, the least";
        ProofDesk x = new ProofDesk();
        int a = x.make(0, 0, 0);
        int b = x.make(0, 1, 0);
        int then = x.make(5, a, b);
        int not = x.make(2, a, 0);
        int no = x.make(1, 0, 0);
        x.premise(a);
        x.premise(b);
        x.step(0, a, 0, 0, 0);
        x.step(0, b, 1, 0, 0);
        hintIs(x, x.make(3, b, a), 1, 1, 0, 0);
        hintIs(x, x.make(3, a, a), 1, 0, 0, 0);
        hintIs(x, x.make(4, a, b), 4, 0, 0, 0);
        x.begin();
        x.assume(not);
        x.assume(then);
        x.assume(x.make(5, b, no));
        x.assume(then);
        x.assume(a);
        x.assume(x.make(2, not, 0));
        hintIs(x, b, 8, 1, 4, 0);
        hintIs(x, no, 10, 0, 5, 0);
        hintIs(x, a, 0, 4, 0, 0);
        x.close();
        hintIs(x, no, 10, 4, 0, 0);
        x.close();
        noHint(x, no);
        ProofDesk y = new ProofDesk();
        y.make(0, 0, 0);
        y.make(0, 1, 0);
        y.make(4, 0, 1);
        y.make(4, 1, 0);
        y.premise(2);
        y.premise(2);
        y.assume(1);
        y.step(4, 3, 2, 0, 0);
        y.close();
        y.assume(0);
        y.step(5, 3, 4, 0, 0);
        y.close();
        y.assume(0);
        y.step(5, 3, 6, 0, 0);
        y.close();
        y.assume(1);
        y.step(4, 3, 8, 0, 0);
        y.close();
        hintIs(y, 3, 6, 0, 1, 0);
        y.step(6, 3, 0, 1, 0);
        hintIs(y, 3, 0, 10, 0, 0);
        ProofDesk z = new ProofDesk();
        int or2 = z.make(4, z.make(0, 0, 0), z.make(0, 1, 0));
        int goal = z.make(4, 1, 0);
        z.premise(or2);
        z.assume(or2);
        z.close();
        z.assume(0);
        z.step(5, goal, 2, 0, 0);
        z.close();
        z.assume(0);
        z.close();
        noHint(z, goal);
        z.assume(1);
        z.step(4, goal, 5, 0, 0);
        z.close();
        hintIs(z, goal, 6, 0, 1, 3);
        for (int k = y.count(3); k < 60; k++) {
            y.step(0, 3, 10, 0, 0);
        }
        due("60 lines", y.count(3), 60);
        hintIs(y, 3, 0, 10, 0, 0);
    }

    private static void end() {
        part = "22 end";
        ProofDesk x = new ProofDesk();
        thrown("no line", x, STATE, x::end);
        int a = x.make(0, 0, 0);
        int aa = x.make(5, a, a);
        x.assume(a);
        thrown("an open box", x, STATE, x::end);
        x.close();
        thrown("the latest line is in a box", x, STATE, x::end);
        x.step(7, aa, 0, 0, 0);
        x.assume(a);
        thrown("an open box", x, STATE, x::end);
        x.undo();
        due("theorem 0", x.end(), 0);
        due("lines", x.count(3), 0);
        due("boxes", x.count(4), 0);
        for (int k = 1; k < 16; k++) {
            x.premise(a);
            due("theorem " + k, x.end(), k);
        }
        x.premise(a);
        thrown("theorem 16", x, STATE, x::end);
        due("theorems", x.count(7), 16);
    }

    private static void theorem() {
        part = "23 theorem";
        ProofDesk x = new ProofDesk();
        thrown("no theorem", x, INDEX, () -> x.theorem(0, 0));
        int a = x.make(0, 0, 0);
        int b = x.make(0, 1, 0);
        int ab = x.make(3, a, b);
        x.premise(a);
        x.premise(b);
        x.step(0, b, 1, 0, 0);
        x.step(0, a, 0, 0, 0);
        x.step(0, b, 1, 0, 0);
        x.end();
        x.premise(ab);
        x.step(2, a, 0, 0, 0);
        x.end();
        x.assume(a);
        x.close();
        x.step(7, x.make(5, a, a), 0, 0, 0);
        x.end();
        int[][] want = {{b, 2, a, b, 5, 2, 0}, {a, 1, ab, -1, 2, 2, 0}, {x.make(5, a, a), 0, -1, -1, 2, 2, 0}};
        for (int t = 0; t < want.length; t++) {
            for (int what = 0; what < 7; what++) {
                due("theorem(" + t + ", " + what + ")", x.theorem(t, what), want[t][what]);
            }
        }
        int bb = x.make(5, b, b);
        steps(x, 0, 13, bb, 2, 0, 0);
        steps(x, 0, 13, bb, 2, 0, 0);
        steps(x, 3, 13, ab, 2, 0, 0);
        due("uses", x.theorem(2, 6), 2);
        x.undo();
        due("with those that were taken back", x.theorem(2, 6), 2);
        x.begin();
        steps(x, 0, 13, bb, 2, 0, 0);
        x.end();
        due("of all proofs", x.theorem(2, 6), 3);
        due("another one", x.theorem(1, 6), 0);
        thrown("theorem 4", x, INDEX, () -> x.theorem(4, 0));
        thrown("theorem -1", x, INDEX, () -> x.theorem(-1, 0));
        thrown("what 7", x, INDEX, () -> x.theorem(0, 7));
        thrown("what -1", x, INDEX, () -> x.theorem(0, -1));
        thrown("what MAX", x, INDEX, () -> x.theorem(0, MAX));
    }

    private static void instance() {
        part = "24 instance";
        ProofDesk x = new ProofDesk();
        thrown("no theorem", x, INDEX, () -> x.instance(0, 0, 0));
        int f = read(x, "a&b>a");
        x.premise(f);
        x.end();
        int g = read(x, "(c|a)&-b>c|a");
        int ca = read(x, "c|a");
        int notb = read(x, "-b");
        due("a becomes c|a", x.instance(0, g, 0), ca);
        due("b becomes -b", x.instance(0, g, 1), notb);
        due("c does not stand in it", x.instance(0, g, 2), -1);
        due("d is not known", x.instance(0, g, 3), -1);
        due("into itself", x.instance(0, f, 0), read(x, "a"));
        due("into itself", x.instance(0, f, 1), read(x, "b"));
        int other = read(x, "a&b>b");
        due("it cannot become this", x.instance(0, other, 0), -1);
        due("nor this", x.instance(0, 0, 0), -1);
        due("nor this", x.instance(0, read(x, "(a|b)>a"), 1), -1);
        int both = read(x, "b&b>b");
        due("both letters may become one", x.instance(0, both, 0), read(x, "b"));
        due("both letters may become one", x.instance(0, both, 1), read(x, "b"));
        int formulas = x.count(0);
        thrown("theorem 1", x, INDEX, () -> x.instance(1, 0, 0));
        thrown("theorem -1", x, INDEX, () -> x.instance(-1, 0, 0));
        thrown("no formula", x, INDEX, () -> x.instance(0, formulas, 0));
        thrown("formula -1", x, INDEX, () -> x.instance(0, -1, 0));
        thrown("letter 8", x, INDEX, () -> x.instance(0, 0, 8));
        thrown("letter -1", x, INDEX, () -> x.instance(0, 0, -1));
        ProofDesk y = new ProofDesk();
        y.make(0, 0, 0);
        for (int k = 0; k < 118; k++) {
            y.make(3, k, k);
        }
        int b = y.make(0, 1, 0);
        for (int k = 0; k < 118; k++) {
            y.make(3, b + k, b + k);
        }
        y.premise(118);
        y.end();
        due("a huge one", y.instance(0, b + 118, 0), b);
        due("one that is too small", y.instance(0, b + 117, 0), -1);
        due("premises do not matter", y.instance(0, 118, 0), 0);
    }

    private static void instanceOfParts() {
        part = "24 instance, the parts";
        ProofDesk x = new ProofDesk();
        int no = x.make(1, 0, 0);
        int a = x.make(0, 0, 0);
        int b = x.make(0, 1, 0);
        int[] conclusions = {x.make(5, no, a), x.make(3, a, a), x.make(2, a, 0), a};
        for (int f : conclusions) {
            x.premise(f);
            x.end();
        }
        due("# stays #", x.instance(0, x.make(5, no, b), 0), b);
        due("# is no letter", x.instance(0, x.make(5, b, b), 0), -1);
        due("# is no letter", x.instance(0, x.make(5, x.make(2, no, 0), b), 0), -1);
        due("a letter becomes #", x.instance(1, x.make(3, no, no), 0), no);
        due("a letter becomes one formula", x.instance(1, x.make(3, no, b), 0), -1);
        due("a letter becomes one formula", x.instance(1, x.make(3, b, no), 0), -1);
        due("what is denied", x.instance(2, x.make(2, b, 0), 0), b);
        due("what is denied", x.instance(2, x.make(2, x.make(2, no, 0), 0), 0), x.make(2, no, 0));
        due("a letter becomes anything", x.instance(3, conclusions[1], 0), conclusions[1]);
        due("# does", x.instance(3, no, 0), no);
        ProofDesk y = full();
        y.premise(239);
        y.end();
        due("the last formula", y.instance(0, 239, 0), 0);
        due("another one", y.instance(0, 238, 0), -1);
    }

    private static void thrift() {
        part = "25 thrift";
        ProofDesk x = new ProofDesk();
        same("without theorems", x.thrift(), 1.0);
        int a = x.make(0, 0, 0);
        x.premise(a);
        x.premise(a);
        x.step(0, a, 0, 0, 0);
        same("the proof that is written does not count", x.thrift(), 1.0);
        x.end();
        same("two of three", x.thrift(), 2.0 / 3.0);
        x.premise(a);
        x.premise(a);
        x.step(0, a, 0, 0, 0);
        x.step(0, a, 0, 0, 0);
        x.end();
        same("four of seven", x.thrift(), 4.0 / 7.0);
        x.premise(a);
        same("still", x.thrift(), 4.0 / 7.0);
    }

    private static void digest() {
        part = "26 digest";
        ProofDesk x = new ProofDesk();
        due("of a new object", x.digest(), summed(x));
        int a = x.make(0, 0, 0);
        int b = x.make(1, 0, 0);
        int then = x.make(5, a, b);
        x.premise(then);
        x.premise(a);
        x.step(8, b, 0, 1, 0);
        x.end();
        x.premise(a);
        x.assume(then);
        x.step(13, b, 0, 1, 0);
        due("a refused one", x.step(13, b, 0, 0, 1), 3);
        x.close();
        x.step(7, x.make(5, then, b), 0, 0, 0);
        x.write(then);
        tape(x, "abc");
        due("of a full one", x.digest(), summed(x));
        due("again", x.digest(), summed(x));
        long before = x.digest();
        x.trim(2);
        due("the tape's size stands in it", x.digest() == before ? 1 : 0, 0);
    }
}
