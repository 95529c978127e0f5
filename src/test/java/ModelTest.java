import java.util.Arrays;
import java.util.Set;
import java.util.TreeSet;
import java.util.function.LongSupplier;

/** Long mixed runs: every answer, exception and digest of the program against those of the model. */
public final class ModelTest {
    private static final int RUNS = 1000;
    /** All calls on one object of the program: what later ones answer is free. */
    private static final int CALLS = 512;
    /** Of how many methods and exceptions the document tells that they go together. */
    private static final int THROWN = 28;
    private static final String SIGNS = "aabbcdefgh#--&&||>>(()) ";

    private static long seed;
    private static int wrong = 0;
    private static int[] accepted = new int[14];
    private static int[] refused = new int[4];
    private static int[] hinted = new int[14];
    private static int[] readings = new int[3];
    private static Set<String> thrown = new TreeSet<>();

    private ProofDesk x;
    private Model model;
    private int run;
    private int calls;
    private int mood;

    /** Below n, always the same ones in the same order. */
    private static int pick(int n) {
        seed = seed * 6364136223846793005L + 1442695040888963407L;
        return n <= 0 ? 0 : (int) ((seed >>> 33) % n);
    }

    private static boolean chance(int percent) {
        return pick(100) < percent;
    }

    private static String told(LongSupplier call) {
        try {
            return String.valueOf(call.getAsLong());
        } catch (RuntimeException e) {
            return e.getClass().getName();
        }
    }

    private String both(String what, LongSupplier program, LongSupplier other) {
        if (calls >= CALLS) {
            return "";
        }
        calls++;
        String got = told(program);
        String want = told(other);
        if (!got.equals(want)) {
            wrong++;
            System.out.println("run " + run + ", call " + calls + ": " + what + " answered " + got + ", due is " + want);
        }
        if (got.contains("Exception")) {
            thrown.add(what.replaceAll("[( ].*", "") + " " + got.replaceAll(".*[.]", ""));
        }
        // To look at the state costs calls, too: some runs look at it often, others have more calls of other kinds.
        if (calls < CALLS && (run % 3 == 0 || chance(10))) {
            looks("digest behind " + what, x.digest() == model.digest());
        }
        if (calls < CALLS && chance(6)) {
            looks("errorAt behind " + what, x.errorAt() == model.errorAt());
        }
        if (calls < CALLS && chance(3)) {
            looks("thrift behind " + what, Double.compare(x.thrift(), model.thrift()) == 0);
        }
        return got;
    }

    private void looks(String what, boolean same) {
        calls++;
        if (!same) {
            wrong++;
            System.out.println("run " + run + ", call " + calls + ": " + what + " is not as due");
        }
    }

    private static int number(String answer) {
        return answer.matches("-?[0-9]{1,9}") ? Integer.parseInt(answer) : -1;
    }

    private int make(int sort, int f, int g) {
        return number(both("make(" + sort + ", " + f + ", " + g + ")", () -> x.make(sort, f, g), () -> model.make(sort, f, g)));
    }

    private void step(int rule, int f, int a, int b, int c) {
        int why = number(both("step(" + rule + ", " + f + ", " + a + ", " + b + ", " + c + ")",
                () -> x.step(rule, f, a, b, c), () -> model.step(rule, f, a, b, c)));
        if (why == 0) {
            accepted[rule]++;
        } else if (why > 0) {
            refused[why]++;
        }
    }

    private int hint(int f, int which) {
        return number(both("hint(" + f + ", " + which + ")", () -> x.hint(f, which), () -> model.hint(f, which)));
    }

    /** Mostly one of n, now and then one that is not. */
    private static int of(int n) {
        if (chance(4)) {
            int[] odd = {-1, n, n + 1, -2, Integer.MIN_VALUE, Integer.MAX_VALUE, 240, 60, 16};
            return odd[pick(odd.length)];
        }
        return chance(40) ? n - 1 - pick(Math.min(n, 6)) : pick(n);
    }

    private int anyFormula() {
        return of(model.count(0));
    }

    private int lineFormula(int line) {
        return line >= 0 && line < model.count(3) ? model.line(line, 0) : 0;
    }

    private int seenLine() {
        int line = of(model.count(3));
        for (int n = 0; n < 8 && line >= 0 && line < model.count(3) && model.line(line, 6) == 0; n++) {
            line = pick(model.count(3));
        }
        return line;
    }

    private int seenBox() {
        int box = of(model.count(4));
        for (int n = 0; n < 8 && box >= 0 && box < model.count(4) && model.box(box, 3) == 0; n++) {
            box = pick(model.count(4));
        }
        return box;
    }

    private void tape() {
        StringBuilder text = new StringBuilder();
        if (chance(70)) {
            write(text, chance(10) ? 12 : 4);
        }
        for (int n = pick(3); n > 0 && chance(50); n--) {
            int at = pick(text.length() + 1);
            text.insert(at, SIGNS.charAt(pick(SIGNS.length())));
        }
        if (chance(5)) {
            text.insert(pick(text.length() + 1), (char) pick(256));
        }
        if (chance(80)) {
            both("trim(0)", () -> x.trim(0), () -> model.trim(0));
        }
        for (int n = 0; n < 110 && chance(98) && text.length() > 30; n++) {
            text.append("|a>b&-c>".charAt(n % 8));
        }
        int before = model.count(1);
        for (int at = 0; at < text.length(); at += 20) {
            int[] w = new int[5];
            for (int k = 0; k < 20; k++) {
                w[k / 4] = w[k / 4] << 8 | (at + k < text.length() ? text.charAt(at + k) : ' ');
            }
            both("feed", () -> x.feed(w[0], w[1], w[2], w[3], w[4]), () -> model.feed(w[0], w[1], w[2], w[3], w[4]));
        }
        if (chance(80)) {
            int n = chance(10) ? of(model.count(1)) : before + text.length();
            both("trim(" + n + ")", () -> x.trim(n), () -> model.trim(n));
        }
        int f = number(both("read of " + text, () -> x.read(), () -> model.read()));
        readings[f >= 0 ? 0 : -f]++;
    }

    private void write(StringBuilder text, int depth) {
        if (chance(15)) {
            text.append(' ');
        }
        int sort = depth <= 0 ? 0 : pick(8);
        if (sort <= 1) {
            text.append("abcdefgh#abcab".charAt(pick(14)));
        } else if (sort == 2) {
            text.append('-');
            write(text, depth - 1);
        } else {
            boolean brackets = chance(50);
            text.append(brackets ? "(" : "");
            write(text, depth - 1 - pick(2));
            text.append("&|>&|>>>".charAt(sort));
            write(text, depth - 1);
            text.append(brackets ? ")" : "");
        }
    }

    private void makeSome() {
        if (mood == 2 && chance(70)) {
            int f = model.count(0) - 1;
            make(chance(50) ? 2 : 3 + pick(3), f, chance(50) ? f : pick(f + 1));
            return;
        }
        int sort = chance(3) ? pick(20) - 5 : pick(6);
        make(sort, sort == 0 ? of(8) : anyFormula(), anyFormula());
    }

    /** A step that mostly holds: its formula is made of the lines and boxes that it names. */
    private void goodStep() {
        int rule = pick(14);
        int a = seenLine();
        int b = seenLine();
        int c = seenLine();
        int f = anyFormula();
        int fa = lineFormula(a);
        int sort = model.count(0) > 0 ? model.formula(fa, 0) : 0;
        switch (rule) {
            case 0:
                f = fa;
                break;
            case 1:
                f = make(3, fa, lineFormula(b));
                break;
            case 2:
            case 3:
                f = sort == 3 ? model.formula(fa, rule - 1) : f;
                break;
            case 4:
                f = make(4, fa, f);
                break;
            case 5:
                f = make(4, f, fa);
                break;
            case 6:
                b = seenBox();
                c = seenBox();
                f = b >= 0 && b < model.count(4) ? lineFormula(model.box(b, 1)) : f;
                break;
            case 7:
            case 9:
                a = seenBox();
                if (a >= 0 && a < model.count(4)) {
                    int first = lineFormula(model.box(a, 0));
                    f = rule == 9 ? make(2, first, 0) : make(5, first, lineFormula(model.box(a, 1)));
                }
                break;
            case 8:
                f = sort == 5 ? model.formula(fa, 2) : f;
                break;
            case 10:
                f = make(1, 0, 0);
                break;
            case 13:
                a = of(model.count(7));
                f = changedConclusion(a, f);
                break;
            default:
                f = sort == 2 && model.formula(model.formula(fa, 1), 0) == 2 ? model.formula(model.formula(fa, 1), 1) : f;
                break;
        }
        step(rule, f, a, b, c);
    }

    /** The conclusion of a theorem with other formulas in the places of its letters. */
    private int changedConclusion(int theorem, int otherwise) {
        if (theorem < 0 || theorem >= model.count(7) || !small(model.theorem(theorem, 0))) {
            return otherwise;
        }
        int[] letters = new int[8];
        for (int k = 0; k < 8; k++) {
            letters[k] = chance(60) && model.count(3) > 0 ? lineFormula(pick(model.count(3))) : pick(model.count(0));
        }
        return changed(model.theorem(theorem, 0), letters);
    }

    private int changed(int f, int[] letters) {
        if (f < 0) {
            return -1;
        }
        int sort = model.formula(f, 0);
        if (sort == 0) {
            return letters[model.formula(f, 1)];
        }
        int one = sort >= 2 ? changed(model.formula(f, 1), letters) : 0;
        int two = sort >= 3 ? changed(model.formula(f, 2), letters) : 0;
        return make(sort, one, two);
    }

    /** Opens boxes for both parts of an or, so that there is something for the rule 6. */
    private void cases() {
        int or = -1;
        for (int k = 0; k < model.count(3); k++) {
            or = model.line(k, 6) == 1 && model.formula(model.line(k, 0), 0) == 4 ? k : or;
        }
        if (or < 0) {
            int f = make(4, anyFormula(), anyFormula());
            both("assume(" + f + ")", () -> x.assume(f), () -> model.assume(f));
            return;
        }
        int f = lineFormula(or);
        int goal = make(4, model.formula(f, 2), model.formula(f, 1));
        int first = model.count(4);
        for (int side = 1; side <= 2; side++) {
            int part = model.formula(f, side);
            both("assume(" + part + ")", () -> x.assume(part), () -> model.assume(part));
            step(side == 1 ? 5 : 4, goal, model.count(3) - 1, 0, 0);
            both("close()", () -> x.close(), () -> model.close());
        }
        if (chance(50)) {
            hint(goal, pick(4));
        }
        step(6, goal, or, first, first + 1);
    }

    /** Denies what is assumed, for the rules 10 and 9. */
    private void denial() {
        int line = seenLine();
        int not = make(2, lineFormula(line), 0);
        both("assume(" + not + ")", () -> x.assume(not), () -> model.assume(not));
        int no = make(1, 0, 0);
        if (chance(50)) {
            hint(no, pick(4));
        }
        step(10, no, line, model.count(3) - 1, 0);
        int box = model.count(4) - 1;
        both("close()", () -> x.close(), () -> model.close());
        int twice = make(2, not, 0);
        if (chance(50)) {
            hint(twice, pick(4));
        }
        step(9, twice, box, 0, 0);
        if (chance(50)) {
            step(12, lineFormula(line), model.count(3) - 1, 0, 0);
        }
    }

    /** Assumes what the rules 8, 11, 2 and 3 can use, and uses it. */
    private void uses() {
        int line = seenLine();
        int goal = anyFormula();
        int rule = new int[] {8, 8, 11, 2, 3}[pick(5)];
        int f = rule == 8 ? make(5, lineFormula(line), goal) : rule == 11 ? make(1, 0, 0)
                : rule == 2 ? make(3, goal, anyFormula()) : make(3, anyFormula(), goal);
        both("assume(" + f + ")", () -> x.assume(f), () -> model.assume(f));
        int assumed = model.count(3) - 1;
        if (chance(50)) {
            hinted[hint(goal, 0) + 1]++;
        }
        step(rule, goal, assumed, rule == 8 ? line : pick(3), 0);
    }

    /** Assumes the premises of a theorem, with other formulas in the places of its letters. */
    private void theoremUse() {
        int theorem = pick(model.count(7));
        if (theorem >= model.count(7)) {
            return;
        }
        int[] letters = new int[8];
        for (int k = 0; k < 8; k++) {
            letters[k] = pick(Math.min(20, model.count(0)));
        }
        int[] references = {0, 0};
        for (int k = 0; k < model.theorem(theorem, 1); k++) {
            int f = small(model.theorem(theorem, 2 + k)) ? changed(model.theorem(theorem, 2 + k), letters) : 0;
            both("assume(" + f + ")", () -> x.assume(f), () -> model.assume(f));
            references[k] = model.count(3) - 1;
        }
        int f = small(model.theorem(theorem, 0)) ? changed(model.theorem(theorem, 0), letters) : 0;
        boolean swap = chance(10);
        step(13, f, theorem, references[swap ? 1 : 0], references[swap ? 0 : 1]);
        int letter = pick(8);
        both("instance(" + theorem + ", " + f + ", " + letter + ")", () -> x.instance(theorem, f, letter),
                () -> model.instance(theorem, f, letter));
    }

    private boolean small(int f) {
        return model.formula(f, 5) <= 40;
    }

    /** Comes near to one of the limits: 240 formulas, 16 theorems or 60 lines. */
    private void approach(int limit) {
        make(0, 0, 0);
        for (int k = 0; k < 215 + pick(24) && limit == 0; k++) {
            make(k % 3 == 0 ? 2 : 3, k, k / 2);
        }
        for (int k = 0; k < 13 && limit == 1; k++) {
            int f = k;
            make(chance(50) ? 2 : 5, k, k);
            both("premise(" + f + ")", () -> x.premise(f), () -> model.premise(f));
            both("end()", () -> x.end(), () -> model.end());
        }
        for (int k = 0; k < 45 && limit == 2; k++) {
            if (k % 2 == 0 && model.count(5) < 5) {
                both("assume(0)", () -> x.assume(0), () -> model.assume(0));
            } else if (chance(60)) {
                step(0, 0, model.count(3) - 1, 0, 0);
            } else {
                both("close()", () -> x.close(), () -> model.close());
            }
        }
    }

    private void hints() {
        int f = anyFormula();
        if (chance(50) && model.count(3) > 0) {
            int g = lineFormula(seenLine());
            int sort = model.formula(g, 0);
            f = sort >= 3 ? model.formula(g, 1 + pick(2)) : sort == 2 ? model.formula(g, 1) : f;
        }
        if (chance(3)) {
            hint(f, of(4));
            return;
        }
        int rule = hint(f, 0);
        hinted[rule + 1]++;
        int a = hint(f, 1);
        int b = hint(f, 2);
        int c = hint(f, 3);
        if (rule >= 0 && chance(60)) {
            step(rule, f, a, b, c);
        }
    }

    private void look() {
        int one = pick(12);
        int k = of(one == 0 ? model.count(0) : one == 1 ? model.count(3) : one == 2 ? model.count(4) : model.count(7));
        int what = of(8);
        int f = anyFormula();
        int set = chance(5) ? of(256) : pick(256);
        switch (one) {
            case 0:
                both("formula(" + k + ", " + what + ")", () -> x.formula(k, what), () -> model.formula(k, what));
                break;
            case 1:
                both("line(" + k + ", " + what + ")", () -> x.line(k, what), () -> model.line(k, what));
                break;
            case 2:
                both("box(" + k + ", " + what % 5 + ")", () -> x.box(k, what % 5), () -> model.box(k, what % 5));
                break;
            case 3:
                both("theorem(" + k + ", " + what + ")", () -> x.theorem(k, what), () -> model.theorem(k, what));
                break;
            case 4:
                both("count(" + what + ")", () -> x.count(what), () -> model.count(what));
                break;
            case 5:
                both("isTrue(" + f + ", " + set + ")", () -> x.isTrue(f, set) ? 1 : 0, () -> model.isTrue(f, set) ? 1 : 0);
                break;
            case 6:
            case 7:
                both("write(" + f + ")", () -> x.write(f), () -> model.write(f));
                break;
            case 8:
                int place = of(model.count(2));
                both("byteAt(" + place + ")", () -> x.byteAt(place), () -> model.byteAt(place));
                break;
            case 9:
                int line = of(model.count(3));
                both("fails(" + line + ")", () -> x.fails(line), () -> model.fails(line));
                break;
            default:
                int letter = chance(5) ? of(8) : pick(3);
                both("instance(" + k + ", " + f + ", " + letter + ")", () -> x.instance(k, f, letter),
                        () -> model.instance(k, f, letter));
                break;
        }
    }

    private void call() {
        int one = pick(100);
        int f = anyFormula();
        if (one < 6) {
            tape();
        } else if (one < 16 || model.count(0) == 0) {
            makeSome();
        } else if (one < 20) {
            both("premise(" + f + ")", () -> x.premise(f), () -> model.premise(f));
        } else if (one < 28) {
            both("assume(" + f + ")", () -> x.assume(f), () -> model.assume(f));
        } else if (one < 35) {
            both("close()", () -> x.close(), () -> model.close());
        } else if (one < 60) {
            goodStep();
        } else if (one < 64) {
            step(of(14), f, of(model.count(3)), of(model.count(3)), of(model.count(3)));
        } else if (one < 67) {
            cases();
        } else if (one < 69) {
            denial();
        } else if (one < 71) {
            uses();
        } else if (one < 73) {
            theoremUse();
        } else if (one < 76) {
            hints();
        } else if (one < 78 + mood) {
            both("undo()", () -> x.undo(), () -> model.undo());
        } else if (one < 83) {
            both("end()", () -> x.end(), () -> model.end());
        } else if (one < 84 && chance(30)) {
            both("begin()", () -> x.begin(), () -> model.begin());
        } else {
            look();
        }
    }

    private void go(int number) {
        x = new ProofDesk();
        model = new Model();
        run = number;
        calls = 0;
        mood = number % 4;
        approach(number % 5 - 2);
        // Every answer can be followed by further calls within one call(), none beyond the last.
        for (int n = 0; n < 20 * CALLS && calls < CALLS && wrong < 10; n++) {
            call();
        }
    }

    public static void main(String[] args) {
        for (int run = 0; run < RUNS && wrong < 10; run++) {
            seed = run;
            new ModelTest().go(run);
        }
        for (int rule = 0; rule < 14; rule++) {
            wrong += accepted[rule] == 0 ? 1 : 0;
            wrong += rule > 0 && hinted[rule] == 0 ? 1 : 0;
        }
        System.out.println("accepted " + Arrays.toString(accepted) + ", refused "
                + Arrays.toString(refused) + ", hinted " + Arrays.toString(hinted)
                + ", read " + Arrays.toString(readings));
        wrong += readings[2] == 0 || thrown.size() < THROWN ? 1 : 0;
        System.out.println(thrown.size() + " thrown: " + thrown);
        System.out.println(wrong == 0 ? "the model answers the same" : wrong + " faults against the model");
        if (wrong != 0) {
            System.exit(1);
        }
    }
}
