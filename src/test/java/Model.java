import java.math.BigInteger;
import java.util.ArrayDeque;
import java.util.ArrayList;
import java.util.Deque;
import java.util.HashMap;
import java.util.HashSet;
import java.util.List;
import java.util.Map;
import java.util.Set;

/**
 * The document once more, written naively and in other ways than the program: the tape is checked
 * byte by byte, a proof that is taken back is a copy that was kept, hints try everything.
 */
final class Model {
    private static final String SIGNS = "..-&|>";
    private static final BigInteger MILLION = BigInteger.valueOf(1000000);
    /** What the references of the rules 0 to 12 are: l a line, b a box. */
    private static final String[] NEEDS = {"l", "ll", "l", "l", "l", "l", "lbb", "b", "ll", "b", "ll", "l", "l"};

    private record Tree(int sort, int letter, Tree left, Tree right) { }

    private record Line(int f, int rule, int a, int b, int c, int box) { }

    private record Box(int first, int last, int outer) { }

    private record Theorem(int conclusion, List<Integer> premises, int lines, int needed) { }

    private record Paper(List<Line> lines, List<Box> boxes) { }

    private final List<List<Integer>> formulas = new ArrayList<>();
    private final List<BigInteger> sizes = new ArrayList<>();
    private final List<String> texts = new ArrayList<>();
    private final List<boolean[]> truths = new ArrayList<>();
    private final List<Theorem> theorems = new ArrayList<>();
    private final Map<Integer, Integer> uses = new HashMap<>();
    private final Deque<Paper> earlier = new ArrayDeque<>();
    private List<Line> lines = new ArrayList<>();
    private List<Box> boxes = new ArrayList<>();
    private List<Integer> tape = new ArrayList<>();
    private String paper = "";
    private int error = -1;

    int feed(int a, int b, int c, int d, int e) {
        if (tape.size() > 380) {
            throw new IllegalStateException();
        }
        for (int number : new int[] {a, b, c, d, e}) {
            tape.add(number >>> 24);
            tape.add(number >>> 16 & 255);
            tape.add(number >>> 8 & 255);
            tape.add(number & 255);
        }
        return tape.size();
    }

    int trim(int n) {
        if (n < 0 || n > tape.size()) {
            throw new IllegalArgumentException();
        }
        tape = new ArrayList<>(tape.subList(0, n));
        return n;
    }

    int read() {
        error = firstError();
        List<Integer> bytes = tape;
        tape = new ArrayList<>();
        if (error >= 0) {
            return -1;
        }
        StringBuilder text = new StringBuilder();
        for (int b : bytes) {
            if (b != ' ') {
                text.append((char) b);
            }
        }
        Tree tree = tree(text.toString());
        Set<Tree> all = new HashSet<>();
        collect(tree, all);
        int fresh = 0;
        for (Tree part : all) {
            fresh += known(part) < 0 ? 1 : 0;
        }
        if (formulas.size() + fresh > 240) {
            error = 0;
            return -2;
        }
        return learn(tree);
    }

    /** Goes over the tape with what is open, how deep each is, and whether a plain is due. */
    private int firstError() {
        Deque<Integer> outside = new ArrayDeque<>();
        int depth = 0;
        int denials = 0;
        boolean due = true;
        for (int k = 0; k < tape.size(); k++) {
            int b = tape.get(k);
            if (b == ' ') {
                continue;
            }
            if (due) {
                if (depth + denials > 10) {
                    return k;
                }
                if (b == '-') {
                    denials++;
                } else if (b == '(') {
                    outside.push(depth);
                    depth += denials + 1;
                    denials = 0;
                } else if (b == '#' || "abcdefgh".indexOf(b) >= 0) {
                    due = false;
                    denials = 0;
                } else {
                    return k;
                }
            } else if (b == ')' && !outside.isEmpty()) {
                depth = outside.pop();
            } else if (b == '&' || b == '|' || b == '>') {
                due = true;
                depth += b == '>' ? 1 : 0;
            } else {
                return k;
            }
        }
        return due || !outside.isEmpty() ? tape.size() : -1;
    }

    /** Splits a text without errors at its weakest sign: the first >, else the last |, else the last &. */
    private Tree tree(String text) {
        int then = -1;
        int or = -1;
        int and = -1;
        int open = 0;
        for (int k = text.length() - 1; k >= 0; k--) {
            char b = text.charAt(k);
            open += b == ')' ? 1 : b == '(' ? -1 : 0;
            if (open == 0) {
                then = b == '>' ? k : then;
                or = b == '|' && or < 0 ? k : or;
                and = b == '&' && and < 0 ? k : and;
            }
        }
        int at = then >= 0 ? then : or >= 0 ? or : and;
        if (at >= 0) {
            return new Tree(SIGNS.indexOf(text.charAt(at)), -1, tree(text.substring(0, at)), tree(text.substring(at + 1)));
        }
        switch (text.charAt(0)) {
            case '-':
                return new Tree(2, -1, tree(text.substring(1)), null);
            case '(':
                return tree(text.substring(1, text.length() - 1));
            case '#':
                return new Tree(1, -1, null, null);
            default:
                return new Tree(0, text.charAt(0) - 'a', null, null);
        }
    }

    private static void collect(Tree tree, Set<Tree> all) {
        if (tree != null && all.add(tree)) {
            collect(tree.left, all);
            collect(tree.right, all);
        }
    }

    private int known(Tree tree) {
        if (tree == null) {
            return -1;
        }
        int left = tree.sort == 0 ? tree.letter : known(tree.left);
        if (tree.sort >= 2 && left < 0 || tree.sort >= 3 && known(tree.right) < 0) {
            return -1;
        }
        return formulas.indexOf(List.of(tree.sort, left, known(tree.right)));
    }

    private int learn(Tree tree) {
        int left = tree.sort == 0 ? tree.letter : tree.left == null ? -1 : learn(tree.left);
        int right = tree.right == null ? -1 : learn(tree.right);
        return add(tree.sort, left, right);
    }

    private int add(int sort, int one, int two) {
        List<Integer> key = List.of(sort, one, two);
        int old = formulas.indexOf(key);
        if (old >= 0) {
            return old;
        }
        if (formulas.size() >= 240) {
            throw new IllegalStateException();
        }
        formulas.add(key);
        BigInteger size = BigInteger.ONE;
        boolean[] truth = new boolean[256];
        String text = null;
        for (int set = 0; set < 256; set++) {
            switch (sort) {
                case 0 -> truth[set] = (set & 1 << one) != 0;
                case 1 -> truth[set] = false;
                case 2 -> truth[set] = !truths.get(one)[set];
                case 3 -> truth[set] = truths.get(one)[set] && truths.get(two)[set];
                case 4 -> truth[set] = truths.get(one)[set] || truths.get(two)[set];
                default -> truth[set] = !truths.get(one)[set] || truths.get(two)[set];
            }
        }
        if (sort == 0) {
            text = String.valueOf((char) ('a' + one));
        } else if (sort == 1) {
            text = "#";
        } else if (sort == 2) {
            size = size.add(sizes.get(one));
            text = join("-", bracketed(one, formulas.get(one).get(0) >= 3), "");
        } else {
            size = size.add(sizes.get(one)).add(sizes.get(two));
            int left = formulas.get(one).get(0);
            int right = formulas.get(two).get(0);
            boolean leftIn = left > sort || sort == 5 && left == 5;
            boolean rightIn = right > sort || sort < 5 && right == sort;
            text = join(bracketed(one, leftIn), SIGNS.substring(sort, sort + 1), bracketed(two, rightIn));
        }
        sizes.add(size);
        truths.add(truth);
        texts.add(text);
        return formulas.size() - 1;
    }

    private String bracketed(int f, boolean needed) {
        String text = texts.get(f);
        return text == null || !needed ? text : "(" + text + ")";
    }

    /** The three texts, null if one is missing or there is more than the paper holds. */
    private static String join(String one, String two, String three) {
        if (one == null || two == null || three == null || one.length() + two.length() + three.length() > 400) {
            return null;
        }
        return one + two + three;
    }

    int errorAt() {
        return error;
    }

    int make(int sort, int f, int g) {
        if (sort < 0 || sort > 5 || sort == 0 && (f < 0 || f > 7)) {
            throw new IllegalArgumentException();
        }
        if (sort >= 2) {
            mustBeFormula(f);
        }
        if (sort >= 3) {
            mustBeFormula(g);
        }
        return add(sort, sort == 1 ? -1 : f, sort >= 3 ? g : -1);
    }

    private void mustBe(boolean there) {
        if (!there) {
            throw new IndexOutOfBoundsException();
        }
    }

    private void mustBeFormula(int f) {
        mustBe(f >= 0 && f < formulas.size());
    }

    int formula(int f, int what) {
        mustBeFormula(f);
        mustBe(what >= 0 && what <= 5);
        if (what < 3) {
            return formulas.get(f).get(what);
        }
        if (what == 5) {
            return sizes.get(f).min(MILLION).intValue();
        }
        if (what == 3) {
            int set = 0;
            for (int letter : lettersOf(f)) {
                set += 1 << letter;
            }
            return set;
        }
        int sets = 0;
        for (boolean truth : truths.get(f)) {
            sets += truth ? 1 : 0;
        }
        return sets;
    }

    private Set<Integer> lettersOf(int f) {
        Set<Integer> letters = new HashSet<>();
        Set<Integer> seen = new HashSet<>();
        Deque<Integer> parts = new ArrayDeque<>(List.of(f));
        while (!parts.isEmpty()) {
            int part = parts.pop();
            if (!seen.add(part)) {
                continue;
            }
            List<Integer> it = formulas.get(part);
            if (it.get(0) == 0) {
                letters.add(it.get(1));
            }
            if (it.get(0) >= 2) {
                parts.push(it.get(1));
            }
            if (it.get(0) >= 3) {
                parts.push(it.get(2));
            }
        }
        return letters;
    }

    boolean isTrue(int f, int set) {
        mustBeFormula(f);
        if (set < 0 || set > 255) {
            throw new IllegalArgumentException();
        }
        return truths.get(f)[set];
    }

    int write(int f) {
        mustBeFormula(f);
        if (texts.get(f) == null) {
            throw new IllegalStateException();
        }
        paper = texts.get(f);
        return paper.length();
    }

    int byteAt(int k) {
        mustBe(k >= 0 && k < paper.length());
        return paper.charAt(k);
    }

    int begin() {
        int were = lines.size();
        lines.clear();
        boxes.clear();
        earlier.clear();
        return were;
    }

    private void keep() {
        earlier.push(new Paper(new ArrayList<>(lines), new ArrayList<>(boxes)));
    }

    private int innermost() {
        for (int box = boxes.size() - 1; box >= 0; box--) {
            if (boxes.get(box).last < 0) {
                return box;
            }
        }
        return -1;
    }

    private int openBoxes() {
        int open = 0;
        for (Box box : boxes) {
            open += box.last < 0 ? 1 : 0;
        }
        return open;
    }

    private int premises() {
        int premises = 0;
        for (Line line : lines) {
            premises += line.rule == 15 ? 1 : 0;
        }
        return premises;
    }

    int premise(int f) {
        mustBeFormula(f);
        if (premises() != lines.size() || premises() == 2) {
            throw new IllegalStateException();
        }
        keep();
        lines.add(new Line(f, 15, 0, 0, 0, -1));
        return lines.size() - 1;
    }

    int assume(int f) {
        mustBeFormula(f);
        if (openBoxes() == 6 || lines.size() == 60) {
            throw new IllegalStateException();
        }
        keep();
        boxes.add(new Box(lines.size(), -1, innermost()));
        lines.add(new Line(f, 14, 0, 0, 0, boxes.size() - 1));
        return lines.size() - 1;
    }

    int close() {
        int box = innermost();
        if (box < 0) {
            throw new IllegalStateException();
        }
        keep();
        int last = -1;
        for (int k = 0; k < lines.size(); k++) {
            last = lines.get(k).box == box ? k : last;
        }
        boxes.set(box, new Box(boxes.get(box).first, last, boxes.get(box).outer));
        return box;
    }

    private boolean allOpen(int box) {
        return box < 0 || boxes.get(box).last < 0 && allOpen(boxes.get(box).outer);
    }

    private boolean lineSeen(int line) {
        return line >= 0 && line < lines.size() && allOpen(lines.get(line).box);
    }

    private boolean boxSeen(int box) {
        return box >= 0 && box < boxes.size() && boxes.get(box).last >= 0 && allOpen(boxes.get(box).outer);
    }

    private String needs(int rule, int a) {
        if (rule >= 14) {
            return "";
        }
        if (rule < 13) {
            return NEEDS[rule];
        }
        return a < 0 || a >= theorems.size() ? "t" : "tll".substring(0, 1 + theorems.get(a).premises.size());
    }

    private boolean seen(char kind, int reference) {
        if (kind == 'l') {
            return lineSeen(reference);
        }
        return kind == 'b' ? boxSeen(reference) : reference >= 0 && reference < theorems.size();
    }

    private List<Integer> at(int f) {
        return formulas.get(f);
    }

    private boolean is(int f, int sort, int one, int two) {
        return at(f).equals(List.of(sort, one, two));
    }

    private int refusal(int rule, int f, int a, int b, int c) {
        int[] references = {a, b, c};
        String needs = needs(rule, a);
        for (int k = 0; k < needs.length(); k++) {
            if (!seen(needs.charAt(k), references[k])) {
                return 1;
            }
        }
        int fa = needs.startsWith("l") ? lines.get(a).f : -1;
        int fb = needs.startsWith("ll") ? lines.get(b).f : -1;
        int begin = needs.equals("b") ? lines.get(boxes.get(a).first).f : -1;
        int end = needs.equals("b") ? lines.get(boxes.get(a).last).f : -1;
        switch (rule) {
            case 0:
                return fa == f ? 0 : 3;
            case 1:
                return is(f, 3, fa, fb) ? 0 : 3;
            case 2:
            case 3:
                return at(fa).get(0) != 3 ? 2 : at(fa).get(rule - 1) == f ? 0 : 3;
            case 4:
            case 5:
                return at(f).get(0) == 4 && at(f).get(rule - 3) == fa ? 0 : 3;
            case 6:
                return at(fa).get(0) != 4 ? 2 : fromTo(b, at(fa).get(1), f) && fromTo(c, at(fa).get(2), f) ? 0 : 3;
            case 7:
                return is(f, 5, begin, end) ? 0 : 3;
            case 8:
                return at(fa).get(0) != 5 ? 2 : is(fa, 5, fb, f) ? 0 : 3;
            case 9:
                return at(end).get(0) != 1 ? 2 : is(f, 2, begin, -1) ? 0 : 3;
            case 10:
                return at(fb).get(0) != 2 ? 2 : is(fb, 2, fa, -1) && at(f).get(0) == 1 ? 0 : 3;
            case 11:
                return at(fa).get(0) == 1 ? 0 : 2;
            case 12:
                return at(fa).get(0) != 2 || at(at(fa).get(1)).get(0) != 2 ? 2 : at(at(fa).get(1)).get(1) == f ? 0 : 3;
            default:
                return says(theorems.get(a), f, b, c) ? 0 : 3;
        }
    }

    private boolean fromTo(int box, int first, int last) {
        return lines.get(boxes.get(box).first).f == first && lines.get(boxes.get(box).last).f == last;
    }

    private boolean says(Theorem theorem, int f, int b, int c) {
        Map<Integer, Integer> letters = new HashMap<>();
        Set<Long> done = new HashSet<>();
        int[] references = {b, c};
        boolean says = matches(theorem.conclusion, f, letters, done);
        for (int k = 0; k < theorem.premises.size(); k++) {
            says = says && matches(theorem.premises.get(k), lines.get(references[k]).f, letters, done);
        }
        return says;
    }

    private boolean matches(int pattern, int f, Map<Integer, Integer> letters, Set<Long> done) {
        if (!done.add(pattern * 1000L + f)) {
            return true;
        }
        List<Integer> p = at(pattern);
        if (p.get(0) == 0) {
            Integer old = letters.putIfAbsent(p.get(1), f);
            return old == null || old == f;
        }
        if (!p.get(0).equals(at(f).get(0))) {
            return false;
        }
        for (int k = 1; k < p.get(0) && k <= 2; k++) {
            if (!matches(p.get(k), at(f).get(k), letters, done)) {
                return false;
            }
        }
        return true;
    }

    int step(int rule, int f, int a, int b, int c) {
        if (rule < 0 || rule > 13) {
            throw new IllegalArgumentException();
        }
        mustBeFormula(f);
        if (lines.size() == 60) {
            throw new IllegalStateException();
        }
        int why = refusal(rule, f, a, b, c);
        if (why == 0) {
            keep();
            int needs = needs(rule, a).length();
            lines.add(new Line(f, rule, a, needs > 1 ? b : 0, needs > 2 ? c : 0, innermost()));
            if (rule == 13) {
                uses.merge(a, 1, Integer::sum);
            }
        }
        return why;
    }

    int undo() {
        if (earlier.isEmpty()) {
            throw new IllegalStateException();
        }
        Paper old = earlier.pop();
        lines = old.lines;
        boxes = old.boxes;
        return lines.size();
    }

    int count(int what) {
        mustBe(what >= 0 && what <= 8);
        int[] counts = {formulas.size(), tape.size(), paper.length(), lines.size(), boxes.size(), openBoxes(),
            premises(), theorems.size(), neededLines().size()};
        return counts[what];
    }

    private Set<Integer> neededLines() {
        Set<Integer> needed = new HashSet<>();
        if (!lines.isEmpty()) {
            need(lines.size() - 1, needed);
        }
        return needed;
    }

    private void need(int line, Set<Integer> needed) {
        if (!needed.add(line)) {
            return;
        }
        Line it = lines.get(line);
        int[] references = {it.a, it.b, it.c};
        String needs = needs(it.rule, it.a);
        for (int k = 0; k < needs.length(); k++) {
            if (needs.charAt(k) == 'l') {
                need(references[k], needed);
            } else if (needs.charAt(k) == 'b') {
                need(boxes.get(references[k]).first, needed);
                need(boxes.get(references[k]).last, needed);
            }
        }
    }

    int line(int line, int what) {
        mustBe(line >= 0 && line < lines.size() && what >= 0 && what <= 7);
        Line it = lines.get(line);
        int[] all = {it.f, it.rule, it.a, it.b, it.c, it.box, lineSeen(line) ? 1 : 0,
            neededLines().contains(line) ? 1 : 0};
        return all[what];
    }

    int box(int box, int what) {
        mustBe(box >= 0 && box < boxes.size() && what >= 0 && what <= 3);
        Box it = boxes.get(box);
        return new int[] {it.first, it.last, it.outer, boxSeen(box) ? 1 : 0}[what];
    }

    int fails(int line) {
        mustBe(line >= 0 && line < lines.size());
        int sets = 0;
        for (int set = 0; set < 256; set++) {
            boolean fails = !truths.get(lines.get(line).f)[set];
            for (Line other : lines) {
                fails = fails && (other.rule != 15 || truths.get(other.f)[set]);
            }
            for (int box = lines.get(line).box; box >= 0; box = boxes.get(box).outer) {
                fails = fails && truths.get(lines.get(boxes.get(box).first).f)[set];
            }
            sets += fails ? 1 : 0;
        }
        return sets;
    }

    int hint(int f, int which) {
        mustBeFormula(f);
        mustBe(which >= 0 && which <= 3);
        for (int rule = 0; rule < 13; rule++) {
            String needs = NEEDS[rule];
            for (int a = 0; a < choices(needs, 0); a++) {
                if (!seen(needs.charAt(0), a)) {
                    continue;
                }
                for (int b = 0; b < choices(needs, 1); b++) {
                    for (int c = 0; c < choices(needs, 2); c++) {
                        if (refusal(rule, f, a, b, c) == 0) {
                            return new int[] {rule, a, b, c}[which];
                        }
                    }
                }
            }
        }
        return -1;
    }

    private int choices(String needs, int which) {
        return which >= needs.length() ? 1 : needs.charAt(which) == 'l' ? lines.size() : boxes.size();
    }

    int end() {
        if (lines.isEmpty() || openBoxes() > 0 || lines.get(lines.size() - 1).box >= 0 || theorems.size() == 16) {
            throw new IllegalStateException();
        }
        List<Integer> premises = new ArrayList<>();
        for (Line line : lines) {
            if (line.rule == 15) {
                premises.add(line.f);
            }
        }
        theorems.add(new Theorem(lines.get(lines.size() - 1).f, premises, lines.size(), neededLines().size()));
        begin();
        return theorems.size() - 1;
    }

    int theorem(int theorem, int what) {
        mustBe(theorem >= 0 && theorem < theorems.size() && what >= 0 && what <= 6);
        Theorem it = theorems.get(theorem);
        int premises = it.premises.size();
        int[] all = {it.conclusion, premises, premises > 0 ? it.premises.get(0) : -1,
            premises > 1 ? it.premises.get(1) : -1, it.lines, it.needed, uses.getOrDefault(theorem, 0)};
        return all[what];
    }

    int instance(int theorem, int f, int letter) {
        mustBe(theorem >= 0 && theorem < theorems.size() && letter >= 0 && letter <= 7);
        mustBeFormula(f);
        Map<Integer, Integer> letters = new HashMap<>();
        boolean can = matches(theorems.get(theorem).conclusion, f, letters, new HashSet<>());
        return can ? letters.getOrDefault(letter, -1) : -1;
    }

    double thrift() {
        double needed = 0;
        double all = 0;
        for (Theorem theorem : theorems) {
            needed += theorem.needed;
            all += theorem.lines;
        }
        return theorems.isEmpty() ? 1 : needed / all;
    }

    long digest() {
        List<Integer> numbers = new ArrayList<>();
        for (int what = 0; what < 9; what++) {
            numbers.add(count(what));
        }
        formulas.forEach(numbers::addAll);
        Set<Integer> needed = neededLines();
        for (int k = 0; k < lines.size(); k++) {
            Line it = lines.get(k);
            numbers.addAll(List.of(it.f, it.rule, it.a, it.b, it.c, it.box, lineSeen(k) ? 1 : 0,
                    needed.contains(k) ? 1 : 0));
        }
        for (int k = 0; k < boxes.size(); k++) {
            Box it = boxes.get(k);
            numbers.addAll(List.of(it.first, it.last, it.outer, boxSeen(k) ? 1 : 0));
        }
        for (int t = 0; t < theorems.size(); t++) {
            for (int what = 0; what < 7; what++) {
                numbers.add(theorem(t, what));
            }
        }
        for (char b : paper.toCharArray()) {
            numbers.add((int) b);
        }
        long d = 419;
        for (int x : numbers) {
            d = d * 31 + x;
        }
        return d;
    }
}
