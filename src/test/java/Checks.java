/** What the tests by hand have in common: they compare, and they count what is not as due. */
abstract class Checks {
    static final int MIN = Integer.MIN_VALUE;
    static final int MAX = Integer.MAX_VALUE;
    static final Class<?> STATE = IllegalStateException.class;
    static final Class<?> ARGUMENT = IllegalArgumentException.class;
    static final Class<?> INDEX = IndexOutOfBoundsException.class;

    static String part = "";
    private static int checks = 0;
    private static int wrong = 0;

    interface Call {
        void go();
    }

    private static void say(boolean good, String what) {
        checks++;
        if (!good) {
            wrong++;
            System.out.println(part + ": " + what);
        }
    }

    static void finish(String of) {
        System.out.println(wrong == 0 ? checks + " checks of " + of + " hold" : wrong + " faults of " + of);
        if (wrong != 0) {
            System.exit(1);
        }
    }

    static void due(String what, long got, long want) {
        say(got == want, what + " answered " + got + ", due is " + want);
    }

    static void same(String what, double got, double want) {
        say(Double.compare(got, want) == 0, what + " answered " + got + ", due is " + want);
    }

    static void same(String what, String got, String want) {
        say(got.equals(want), what + " answered " + got + ", due is " + want);
    }

    static void holds(String what, boolean got) {
        say(got, what + " does not hold");
    }

    /** What can be asked without an argument that depends on the state: count() in its order, digest, errorAt. */
    private static long[] state(ProofDesk x) {
        long[] all = new long[11];
        for (int what = 0; what <= 8; what++) {
            all[what] = x.count(what);
        }
        all[9] = x.digest();
        all[10] = x.errorAt();
        return all;
    }

    private static void unchanged(String what, ProofDesk x, long[] before) {
        long[] now = state(x);
        for (int k = 0; k < now.length; k++) {
            String name = k < 9 ? "count(" + k + ")" : k == 9 ? "digest()" : "errorAt()";
            say(now[k] == before[k], what + " changed " + name + " from " + before[k] + " to " + now[k]);
        }
    }

    /** The call throws just this, not a class below it as the machine would, and changes nothing. */
    static void thrown(String what, ProofDesk x, Class<?> want, Call call) {
        long[] before = state(x);
        Class<?> got = null;
        try {
            call.go();
        } catch (RuntimeException e) {
            got = e.getClass();
        }
        say(got == want, what + " threw " + got + ", due is " + want);
        unchanged(what, x, before);
    }

    /** The call answers and changes nothing. */
    static void keeps(String what, ProofDesk x, Call call) {
        long[] before = state(x);
        call.go();
        unchanged(what, x, before);
    }

    /** The step is refused for this and changes nothing. */
    static void refused(ProofDesk x, int why, int rule, int f, int a, int b, int c) {
        String what = "step(" + rule + ", " + f + ", " + a + ", " + b + ", " + c + ")";
        keeps(what, x, () -> due(what, x.step(rule, f, a, b, c), why));
    }

    /** The step adds a line with these references; it is taken back then, so that others can be tried. */
    static void accepted(ProofDesk x, int rule, int f, int a, int b, int c, int... kept) {
        int line = x.count(3);
        String what = "step(" + rule + ", " + f + ", " + a + ", " + b + ", " + c + ")";
        due(what, x.step(rule, f, a, b, c), 0);
        due("lines behind " + what, x.count(3), line + 1);
        if (x.count(3) == line + 1) {
            lineIs(x, line, f, rule, kept[0], kept[1], kept[2]);
            due("undo of " + what, x.undo(), line);
        }
    }

    static void steps(ProofDesk x, int want, int rule, int f, int a, int b, int c) {
        int lines = x.count(3);
        String what = "step(" + rule + ", " + f + ", " + a + ", " + b + ", " + c + ")";
        due(what, x.step(rule, f, a, b, c), want);
        due("lines behind " + what, x.count(3), want == 0 ? lines + 1 : lines);
    }

    static void lineIs(ProofDesk x, int line, int... want) {
        for (int what = 0; what < want.length; what++) {
            due("line(" + line + ", " + what + ")", x.line(line, what), want[what]);
        }
    }

    static void hintIs(ProofDesk x, int f, int rule, int a, int b, int c) {
        int[] want = {rule, a, b, c};
        for (int which = 0; which < 4; which++) {
            due("hint(" + f + ", " + which + ")", x.hint(f, which), want[which]);
        }
    }

    static void noHint(ProofDesk x, int f) {
        hintIs(x, f, -1, -1, -1, -1);
    }

    static String times(int n, String text) {
        return text.repeat(n);
    }

    static int word(String text, int at) {
        int number = 0;
        for (int k = at; k < at + 4; k++) {
            number = number << 8 | (k < text.length() ? text.charAt(k) & 255 : ' ');
        }
        return number;
    }

    static int feed(ProofDesk x, String text, int at) {
        return x.feed(word(text, at), word(text, at + 4), word(text, at + 8), word(text, at + 12), word(text, at + 16));
    }

    static void tape(ProofDesk x, String text) {
        x.trim(0);
        for (int at = 0; at < text.length(); at += 20) {
            feed(x, text, at);
        }
        x.trim(text.length());
    }

    static int read(ProofDesk x, String text) {
        tape(x, text);
        return x.read();
    }

    static void reads(String text, int want) {
        ProofDesk x = new ProofDesk();
        due("read " + text, read(x, text), want);
        due("errorAt behind " + text, x.errorAt(), -1);
        due("the tape behind " + text, x.count(1), 0);
        due("formulas behind " + text, x.count(0), want + 1);
    }

    /** Error 1, and nothing but the tape and errorAt has changed. */
    static void refuses(String text, int at) {
        ProofDesk x = new ProofDesk();
        long before = x.digest();
        due("read " + text, read(x, text), -1);
        due("errorAt behind " + text, x.errorAt(), at);
        due("the tape behind " + text, x.count(1), 0);
        due("formulas behind " + text, x.count(0), 0);
        due("digest behind " + text, x.digest(), before);
    }

    static String written(ProofDesk x, int f) {
        int size = x.write(f);
        due("bytes of the paper", x.count(2), size);
        return paper(x);
    }

    static String paper(ProofDesk x) {
        int size = x.count(2);
        StringBuilder text = new StringBuilder();
        for (int k = 0; k < size; k++) {
            text.append((char) x.byteAt(k));
        }
        return text.toString();
    }

    static void writes(String text, String want) {
        ProofDesk x = new ProofDesk();
        same("write " + text, written(x, read(x, text)), want);
    }

    /** A desk with 240 formulas: 0 is the letter a, and each other one denies the one ahead. */
    static ProofDesk full() {
        return withNots(240);
    }

    /** A desk with so many formulas: 0 is the letter a, and each other one denies the one ahead. */
    static ProofDesk withNots(int formulas) {
        ProofDesk x = new ProofDesk();
        x.make(0, 0, 0);
        for (int k = 0; k < formulas - 1; k++) {
            x.make(2, k, 0);
        }
        return x;
    }

    /** The digest as the document tells it, from what the other calls answer. */
    static long summed(ProofDesk x) {
        int[] ends = {8, 2, 7, 3, 6};
        int[] rows = {1, x.count(0), x.count(3), x.count(4), x.count(7)};
        long d = 419;
        for (int kind = 0; kind < rows.length; kind++) {
            for (int k = 0; k < rows[kind]; k++) {
                for (int what = 0; what <= ends[kind]; what++) {
                    d = d * 31 + told(x, kind, k, what);
                }
            }
        }
        for (int k = 0; k < x.count(2); k++) {
            d = d * 31 + x.byteAt(k);
        }
        return d;
    }

    private static long told(ProofDesk x, int kind, int k, int what) {
        switch (kind) {
            case 0:
                return x.count(what);
            case 1:
                return x.formula(k, what);
            case 2:
                return x.line(k, what);
            case 3:
                return x.box(k, what);
            default:
                return x.theorem(k, what);
        }
    }
}
