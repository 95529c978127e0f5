import java.util.Arrays;

/**
 * A notebook for proofs of propositional logic. Formulas are read or made, proofs are written line
 * by line, and what was proved becomes a theorem. ../shared/DOC.md says what each call does.
 */
public final class ProofDesk {
    private static final int FORMULAS_MAX = 240;
    private static final int TAPE_MAX = 400;
    private static final int PAPER_MAX = 400;
    private static final int LINES_MAX = 60;
    private static final int OPEN_MAX = 6;
    private static final int PREMISES_MAX = 2;
    private static final int THEOREMS_MAX = 16;
    private static final int LETTERS = 8;
    private static final int SETS = 256;

    private static final int LETTER = 0;
    private static final int FALSE = 1;
    private static final int NOT = 2;
    private static final int AND = 3;
    private static final int OR = 4;
    private static final int THEN = 5;

    private final Formulas formulas;
    private final Tape tape;
    private final Paper paper;
    private final Theorems theorems;
    private final Proof proof;
    private final Rules rules;

    public ProofDesk() {
        formulas = new Formulas();
        tape = new Tape(formulas);
        paper = new Paper(formulas);
        theorems = new Theorems(formulas);
        proof = new Proof(formulas, theorems);
        rules = new Rules(formulas, theorems, proof);
    }

    public int feed(int a, int b, int c, int d, int e) throws IllegalStateException {
        if (tape.size() + 20 > TAPE_MAX) {
            throw new IllegalStateException("the tape would be too long");
        }
        tape.append(a);
        tape.append(b);
        tape.append(c);
        tape.append(d);
        tape.append(e);
        return tape.size();
    }

    public int trim(int n) throws IllegalArgumentException {
        if (n < 0 || n > tape.size()) {
            throw new IllegalArgumentException("the tape is not so long");
        }
        tape.shorten(n);
        return n;
    }

    public int read() {
        return tape.parse();
    }

    public int errorAt() {
        return tape.error();
    }

    public int make(int sort, int f, int g)
            throws IllegalArgumentException, IndexOutOfBoundsException, IllegalStateException {
        if (sort < LETTER || sort > THEN) {
            throw new IllegalArgumentException("no such sort");
        }
        if (sort == LETTER && (f < 0 || f >= LETTERS)) {
            throw new IllegalArgumentException("no such letter");
        }
        if (!formulas.hasParts(sort, f, g)) {
            throw new IndexOutOfBoundsException("no such part");
        }
        int number = formulas.number(sort, f, g);
        if (number < 0) {
            throw new IllegalStateException("too many formulas");
        }
        return number;
    }

    public int formula(int f, int what) throws IndexOutOfBoundsException {
        if (!formulas.isKnown(f) || what < 0 || what > 5) {
            throw new IndexOutOfBoundsException("no such formula, or nothing to tell");
        }
        switch (what) {
            case 0:
                return formulas.sort(f);
            case 1:
                return formulas.first(f);
            case 2:
                return formulas.second(f);
            case 3:
                return formulas.letters(f);
            case 4:
                return formulas.trueSets(f);
            default:
                return formulas.size(f);
        }
    }

    public boolean isTrue(int f, int set) throws IndexOutOfBoundsException, IllegalArgumentException {
        if (!formulas.isKnown(f)) {
            throw new IndexOutOfBoundsException("no such formula");
        }
        if (set < 0 || set >= SETS) {
            throw new IllegalArgumentException("no such set of letters");
        }
        return ((formulas.truth(f, set >> 6) >>> (set & 63)) & 1L) != 0L;
    }

    public int write(int f) throws IndexOutOfBoundsException, IllegalStateException {
        if (!formulas.isKnown(f)) {
            throw new IndexOutOfBoundsException("no such formula");
        }
        if (formulas.width(f) > PAPER_MAX) {
            throw new IllegalStateException("the paper is too short");
        }
        paper.put(f);
        return paper.size();
    }

    public int byteAt(int k) throws IndexOutOfBoundsException {
        if (k < 0 || k >= paper.size()) {
            throw new IndexOutOfBoundsException("no such place");
        }
        return paper.at(k);
    }

    public int begin() {
        int lines = proof.lineCount();
        proof.clear();
        return lines;
    }

    public int premise(int f) throws IndexOutOfBoundsException, IllegalStateException {
        if (!formulas.isKnown(f)) {
            throw new IndexOutOfBoundsException("no such formula");
        }
        int premises = proof.premiseCount();
        if (premises < proof.lineCount() || premises >= PREMISES_MAX) {
            throw new IllegalStateException("no place for a premise");
        }
        return proof.add(f, Rules.PREMISE, 0, 0, 0);
    }

    public int assume(int f) throws IndexOutOfBoundsException, IllegalStateException {
        if (!formulas.isKnown(f)) {
            throw new IndexOutOfBoundsException("no such formula");
        }
        if (proof.openCount() >= OPEN_MAX || proof.lineCount() >= LINES_MAX) {
            throw new IllegalStateException("no place for a box");
        }
        proof.openBox();
        return proof.add(f, Rules.ASSUMPTION, 0, 0, 0);
    }

    public int close() throws IllegalStateException {
        if (proof.openCount() <= 0) {
            throw new IllegalStateException("no box is open");
        }
        return proof.shutBox();
    }

    public int step(int rule, int f, int a, int b, int c)
            throws IllegalArgumentException, IndexOutOfBoundsException, IllegalStateException {
        if (rule < 0 || rule > Rules.THEOREM) {
            throw new IllegalArgumentException("no such rule");
        }
        if (!formulas.isKnown(f)) {
            throw new IndexOutOfBoundsException("no such formula");
        }
        if (proof.lineCount() >= LINES_MAX) {
            throw new IllegalStateException("too many lines");
        }
        int why = rules.refusal(rule, f, a, b, c);
        if (why == 0) {
            proof.add(f, rule, a, b, c);
            if (rule == Rules.THEOREM) {
                theorems.noteUse(a);
            }
        }
        return why;
    }

    public int undo() throws IllegalStateException {
        if (!proof.wasBegun()) {
            throw new IllegalStateException("nothing was done");
        }
        proof.takeBack();
        return proof.lineCount();
    }

    public int count(int what) throws IndexOutOfBoundsException {
        switch (what) {
            case 0:
                return formulas.known();
            case 1:
                return tape.size();
            case 2:
                return paper.size();
            case 3:
                return proof.lineCount();
            case 4:
                return proof.boxCount();
            case 5:
                return proof.openCount();
            case 6:
                return proof.premiseCount();
            case 7:
                return theorems.known();
            case 8:
                return proof.neededCount();
            default:
                throw new IndexOutOfBoundsException("nothing to count");
        }
    }

    public int line(int line, int what) throws IndexOutOfBoundsException {
        if (line < 0 || line >= proof.lineCount() || what < 0 || what > 7) {
            throw new IndexOutOfBoundsException("no such line, or nothing to tell");
        }
        switch (what) {
            case 0:
                return proof.formulaOf(line);
            case 1:
                return proof.ruleOf(line);
            case 5:
                return proof.boxOf(line);
            case 6:
                return proof.seesLine(line) ? 1 : 0;
            case 7:
                return proof.isNeeded(line) ? 1 : 0;
            default:
                return proof.reference(line, what - 2);
        }
    }

    public int box(int box, int what) throws IndexOutOfBoundsException {
        if (box < 0 || box >= proof.boxCount() || what < 0 || what > 3) {
            throw new IndexOutOfBoundsException("no such box, or nothing to tell");
        }
        switch (what) {
            case 0:
                return proof.firstLine(box);
            case 1:
                return proof.lastLine(box);
            case 2:
                return proof.outerBox(box);
            default:
                return proof.seesBox(box) ? 1 : 0;
        }
    }

    public int fails(int line) throws IndexOutOfBoundsException {
        if (line < 0 || line >= proof.lineCount()) {
            throw new IndexOutOfBoundsException("no such line");
        }
        return proof.failures(line);
    }

    public int hint(int f, int which) throws IndexOutOfBoundsException {
        if (!formulas.isKnown(f) || which < 0 || which > 3) {
            throw new IndexOutOfBoundsException("no such formula, or nothing to tell");
        }
        for (int rule = 0; rule < Rules.THEOREM; rule++) {
            if (rules.search(rule, f)) {
                return rules.found(which);
            }
        }
        return -1;
    }

    public int end() throws IllegalStateException {
        int latest = proof.lineCount() - 1;
        if (latest < 0 || proof.openCount() > 0 || proof.boxOf(latest) >= 0) {
            throw new IllegalStateException("the proof is not at its end");
        }
        if (theorems.known() >= THEOREMS_MAX) {
            throw new IllegalStateException("too many theorems");
        }
        int premises = proof.premiseCount();
        int one = premises > 0 ? proof.formulaOf(0) : -1;
        int two = premises > 1 ? proof.formulaOf(1) : -1;
        int number = theorems.add(proof.formulaOf(latest), one, two, latest + 1, proof.neededCount());
        proof.clear();
        return number;
    }

    public int theorem(int theorem, int what) throws IndexOutOfBoundsException {
        if (!theorems.isKnown(theorem) || what < 0 || what > 6) {
            throw new IndexOutOfBoundsException("no such theorem, or nothing to tell");
        }
        switch (what) {
            case 0:
                return theorems.conclusion(theorem);
            case 1:
                return theorems.premises(theorem);
            case 2:
                return theorems.firstPremise(theorem);
            case 3:
                return theorems.secondPremise(theorem);
            case 4:
                return theorems.lines(theorem);
            case 5:
                return theorems.needed(theorem);
            default:
                return theorems.uses(theorem);
        }
    }

    public int instance(int theorem, int f, int letter) throws IndexOutOfBoundsException {
        if (!theorems.isKnown(theorem) || !formulas.isKnown(f) || letter < 0 || letter >= LETTERS) {
            throw new IndexOutOfBoundsException("no such theorem, formula or letter");
        }
        return theorems.concludes(theorem, f) ? theorems.imageOfLetter(letter) : -1;
    }

    public double thrift() {
        return theorems.neededShare();
    }

    public long digest() {
        long d = 419L;
        for (int what = 0; what <= 8; what++) {
            d = d * 31L + count(what);
        }
        d = withFormulas(d);
        d = withProof(d);
        d = withTheorems(d);
        for (int k = 0; k < paper.size(); k++) {
            d = d * 31L + paper.at(k);
        }
        return d;
    }

    private long withFormulas(long before) {
        long d = before;
        for (int f = 0; f < formulas.known(); f++) {
            d = d * 31L + formulas.sort(f);
            d = d * 31L + formulas.first(f);
            d = d * 31L + formulas.second(f);
        }
        return d;
    }

    private long withProof(long before) {
        long d = before;
        for (int k = 0; k < proof.lineCount(); k++) {
            for (int what = 0; what <= 7; what++) {
                d = d * 31L + line(k, what);
            }
        }
        for (int k = 0; k < proof.boxCount(); k++) {
            for (int what = 0; what <= 3; what++) {
                d = d * 31L + box(k, what);
            }
        }
        return d;
    }

    private long withTheorems(long before) {
        long d = before;
        for (int k = 0; k < theorems.known(); k++) {
            for (int what = 0; what <= 6; what++) {
                d = d * 31L + theorem(k, what);
            }
        }
        return d;
    }

    /** The formulas that are known. A part always has a smaller number than what it is a part of. */
    private static final class Formulas {
        private static final int SIZE_MAX = 1000000;
        private static final int WORDS = 4;
        /**
         * Bit s is set if the letter is in the set s, the same in every word; for the letters behind
         * these a word is all or nothing.
         */
        private static final long[] LETTER_WORDS = {
            0xAAAAAAAAAAAAAAAAL, 0xCCCCCCCCCCCCCCCCL, 0xF0F0F0F0F0F0F0F0L,
            0xFF00FF00FF00FF00L, 0xFFFF0000FFFF0000L, 0xFFFFFFFF00000000L
        };

        private final int[] sorts = new int[FORMULAS_MAX];
        private final int[] firsts = new int[FORMULAS_MAX];
        private final int[] seconds = new int[FORMULAS_MAX];
        private final int[] letterSets = new int[FORMULAS_MAX];
        private final int[] sizes = new int[FORMULAS_MAX];
        private final int[] widths = new int[FORMULAS_MAX];
        private final long[] truths = new long[FORMULAS_MAX * WORDS];
        private int known;

        int known() {
            return known;
        }

        boolean isKnown(int f) {
            return f >= 0 && f < known;
        }

        int sort(int f) {
            return f >= 0 && f < known ? sorts[f] : -1;
        }

        /** The letter or the first part. */
        int first(int f) {
            return f >= 0 && f < known ? firsts[f] : -1;
        }

        /** The first part alone, so that a letter is not taken for the number of a formula. */
        int left(int f) {
            return f >= 0 && f < known && sorts[f] >= NOT ? firsts[f] : -1;
        }

        int second(int f) {
            return f >= 0 && f < known ? seconds[f] : -1;
        }

        int letters(int f) {
            return f >= 0 && f < known ? letterSets[f] : 0;
        }

        int size(int f) {
            return f >= 0 && f < known ? sizes[f] : 0;
        }

        /** How many bytes it takes to write it, or SIZE_MAX if that is less. */
        int width(int f) {
            return f >= 0 && f < known ? widths[f] : 0;
        }

        /** Bit k tells whether it is true for the set word * 64 + k. */
        long truth(int f, int word) {
            return f >= 0 && f < known && word >= 0 && word < WORDS ? truths[f * WORDS + word] : 0L;
        }

        int trueSets(int f) {
            int sets = 0;
            for (int word = 0; word < WORDS; word++) {
                sets += Long.bitCount(truth(f, word));
            }
            return sets;
        }

        boolean hasParts(int sort, int f, int g) {
            if (sort == LETTER) {
                return f >= 0 && f < LETTERS;
            }
            if (sort == FALSE) {
                return true;
            }
            return isKnown(f) && (sort == NOT || isKnown(g));
        }

        /** Its number, also if it becomes known only now; -1 if a part is missing or there is no place. */
        int number(int sort, int f, int g) {
            if (!hasParts(sort, f, g)) {
                return -1;
            }
            int one = sort == FALSE ? -1 : f;
            int two = sort >= AND ? g : -1;
            int old = find(sort, one, two);
            if (old >= 0 || known >= FORMULAS_MAX) {
                return old;
            }
            add(sort, one, two);
            return known - 1;
        }

        int find(int sort, int one, int two) {
            for (int f = 0; f < known; f++) {
                if (sorts[f] == sort && firsts[f] == one && seconds[f] == two) {
                    return f;
                }
            }
            return -1;
        }

        private void add(int sort, int one, int two) {
            int f = known;
            if (f < 0 || f >= FORMULAS_MAX) {
                return;
            }
            int left = sort >= NOT ? one : -1;
            sorts[f] = sort;
            firsts[f] = one;
            seconds[f] = two;
            letterSets[f] = sort == LETTER ? 1 << one : letters(left) | letters(two);
            sizes[f] = Math.min(SIZE_MAX, 1 + size(left) + size(two));
            int brackets = (needsBrackets(sort, sort(left), false) ? 2 : 0)
                    + (needsBrackets(sort, sort(two), true) ? 2 : 0);
            widths[f] = Math.min(SIZE_MAX, 1 + width(left) + width(two) + brackets);
            for (int word = 0; word < WORDS; word++) {
                truths[f * WORDS + word] = sort == LETTER
                        ? truthOfLetter(one, word)
                        : truthOfParts(sort, truth(left, word), truth(two, word));
            }
            known++;
        }

        private static long truthOfLetter(int letter, int word) {
            if (letter >= 0 && letter < LETTER_WORDS.length) {
                return LETTER_WORDS[letter];
            }
            return ((word >> (letter - LETTER_WORDS.length)) & 1) != 0 ? -1L : 0L;
        }

        private static long truthOfParts(int sort, long left, long right) {
            switch (sort) {
                case NOT:
                    return ~left;
                case AND:
                    return left & right;
                case OR:
                    return left | right;
                case THEN:
                    return ~left | right;
                default:
                    return 0L;
            }
        }

        static boolean needsBrackets(int outer, int inner, boolean onTheRight) {
            switch (outer) {
                case NOT:
                    return inner == AND || inner == OR || inner == THEN;
                case AND:
                    return inner == OR || inner == THEN || (onTheRight && inner == AND);
                case OR:
                    return inner == THEN || (onTheRight && inner == OR);
                case THEN:
                    return !onTheRight && inner == THEN;
                default:
                    return false;
            }
        }

        /** Only those from this number on go, so no formula loses a part. */
        void forgetFrom(int number) {
            if (number >= 0 && number < known) {
                known = number;
            }
        }
    }

    /** The tape and the reading of it. */
    private static final class Tape {
        private static final int DEPTH_MAX = 10;
        private static final int BLANK = 32;

        private final Formulas formulas;
        private final byte[] bytes = new byte[TAPE_MAX];
        private int size;
        private int at;
        private int error = -1;

        Tape(Formulas formulas) {
            this.formulas = formulas;
        }

        int size() {
            return size;
        }

        int error() {
            return error;
        }

        void append(int number) {
            for (int shift = 24; shift >= 0; shift -= 8) {
                if (size >= 0 && size < TAPE_MAX) {
                    bytes[size] = (byte) (number >> shift);
                    size++;
                }
            }
        }

        void shorten(int n) {
            if (n >= 0 && n < size) {
                size = n;
            }
        }

        int parse() {
            int before = formulas.known();
            at = 0;
            error = -1;
            int f = form(0);
            if (error < 0 && next() >= 0) {
                fail();
            }
            size = 0;
            if (error >= 0) {
                formulas.forgetFrom(before);
                return -1;
            }
            if (f < 0) {
                formulas.forgetFrom(before);
                error = 0;
                return -2;
            }
            return f;
        }

        // Formulas are made while the tape is read, since their parts end ahead of them, the left
        // one first: the order in which they are to become known.

        private int form(int depth) {
            int f = both(depth);
            for (int n = 0; n < TAPE_MAX && takes('|'); n++) {
                f = formulas.number(OR, f, both(depth));
            }
            return takes('>') ? formulas.number(THEN, f, form(depth + 1)) : f;
        }

        private int both(int depth) {
            int f = plain(depth);
            for (int n = 0; n < TAPE_MAX && takes('&'); n++) {
                f = formulas.number(AND, f, plain(depth));
            }
            return f;
        }

        private int plain(int depth) {
            int b = next();
            if (depth > DEPTH_MAX || error >= 0) {
                return fail();
            }
            if (b >= 'a' && b < 'a' + LETTERS) {
                at++;
                return formulas.number(LETTER, b - 'a', -1);
            }
            if (takes('#')) {
                return formulas.number(FALSE, -1, -1);
            }
            if (takes('-')) {
                return formulas.number(NOT, plain(depth + 1), -1);
            }
            if (takes('(')) {
                int f = form(depth + 1);
                return takes(')') ? f : fail();
            }
            return fail();
        }

        /** The next byte that is no blank, -1 if the tape ends; at is where it stands. */
        private int next() {
            while (at < size && bytes[at] == BLANK) {
                at++;
            }
            return at < size ? bytes[at] & 255 : -1;
        }

        private boolean takes(int b) {
            if (error >= 0 || next() != b) {
                return false;
            }
            at++;
            return true;
        }

        private int fail() {
            if (error < 0) {
                error = at;
            }
            return -1;
        }
    }

    /** The paper. Formulas may be nested too deep for recursion, so the parts to write wait in rows. */
    private static final class Paper {
        private final Formulas formulas;
        private final byte[] bytes = new byte[PAPER_MAX];
        private final int[] waiting = new int[PAPER_MAX];
        private final int[] places = new int[PAPER_MAX];
        private int waitingCount;
        private int size;

        Paper(Formulas formulas) {
            this.formulas = formulas;
        }

        int size() {
            return size;
        }

        int at(int k) {
            return k >= 0 && k < size ? bytes[k] : 0;
        }

        void put(int f) {
            size = Math.min(PAPER_MAX, formulas.width(f));
            waitingCount = 0;
            addWaiting(f, 0);
            // Each part that waits is at least a byte of the paper.
            for (int n = 0; n < PAPER_MAX && waitingCount > 0; n++) {
                waitingCount--;
                putOne(waiting[waitingCount], places[waitingCount]);
            }
        }

        private void putOne(int f, int place) {
            int sort = formulas.sort(f);
            switch (sort) {
                case LETTER:
                    set(place, 'a' + formulas.first(f));
                    break;
                case FALSE:
                    set(place, '#');
                    break;
                case NOT:
                    set(place, '-');
                    putPart(sort, formulas.left(f), place + 1, false);
                    break;
                default:
                    int middle = putPart(sort, formulas.left(f), place, false);
                    set(middle, sort == AND ? '&' : sort == OR ? '|' : '>');
                    putPart(sort, formulas.second(f), middle + 1, true);
                    break;
            }
        }

        /** Answers the place behind it. */
        private int putPart(int outer, int f, int place, boolean onTheRight) {
            int width = formulas.width(f);
            if (!Formulas.needsBrackets(outer, formulas.sort(f), onTheRight)) {
                addWaiting(f, place);
                return place + width;
            }
            set(place, '(');
            addWaiting(f, place + 1);
            set(place + 1 + width, ')');
            return place + width + 2;
        }

        private void addWaiting(int f, int place) {
            if (waitingCount >= 0 && waitingCount < PAPER_MAX) {
                waiting[waitingCount] = f;
                places[waitingCount] = place;
                waitingCount++;
            }
        }

        private void set(int place, int b) {
            if (place >= 0 && place < PAPER_MAX) {
                bytes[place] = (byte) b;
            }
        }
    }

    /** The theorems, and whether one of them says a formula. */
    private static final class Theorems {
        private final Formulas formulas;
        private final int[] conclusions = new int[THEOREMS_MAX];
        private final int[] firsts = new int[THEOREMS_MAX];
        private final int[] seconds = new int[THEOREMS_MAX];
        private final int[] lines = new int[THEOREMS_MAX];
        private final int[] needed = new int[THEOREMS_MAX];
        private final int[] uses = new int[THEOREMS_MAX];
        /** What each formula becomes with other formulas in the places of its letters, as far as is known. */
        private final int[] images = new int[FORMULAS_MAX];
        private int known;

        Theorems(Formulas formulas) {
            this.formulas = formulas;
        }

        int known() {
            return known;
        }

        boolean isKnown(int t) {
            return t >= 0 && t < known;
        }

        int conclusion(int t) {
            return t >= 0 && t < known ? conclusions[t] : -1;
        }

        int premises(int t) {
            return t >= 0 && t < known ? (firsts[t] >= 0 ? 1 : 0) + (seconds[t] >= 0 ? 1 : 0) : 0;
        }

        int firstPremise(int t) {
            return t >= 0 && t < known ? firsts[t] : -1;
        }

        int secondPremise(int t) {
            return t >= 0 && t < known ? seconds[t] : -1;
        }

        int lines(int t) {
            return t >= 0 && t < known ? lines[t] : 0;
        }

        int needed(int t) {
            return t >= 0 && t < known ? needed[t] : 0;
        }

        int uses(int t) {
            return t >= 0 && t < known ? uses[t] : 0;
        }

        void noteUse(int t) {
            if (t >= 0 && t < known) {
                uses[t]++;
            }
        }

        int add(int conclusion, int one, int two, int lineCount, int neededCount) {
            int t = known;
            if (t < 0 || t >= THEOREMS_MAX) {
                return -1;
            }
            conclusions[t] = conclusion;
            firsts[t] = one;
            seconds[t] = two;
            lines[t] = lineCount;
            needed[t] = neededCount;
            uses[t] = 0;
            known++;
            return t;
        }

        double neededShare() {
            int part = 0;
            int all = 0;
            for (int t = 0; t < known && t < THEOREMS_MAX; t++) {
                part += needed[t];
                all += lines[t];
            }
            return all <= 0 ? 1.0 : (double) part / (double) all;
        }

        boolean concludes(int t, int f) {
            return saysWithPremises(t, f, -1, -1);
        }

        /** With one and two the formulas for its premises; -1 for one that is not looked at. */
        boolean saysWithPremises(int t, int f, int one, int two) {
            Arrays.fill(images, -1);
            boolean says = becomes(conclusion(t), f)
                    && (one < 0 || becomes(firstPremise(t), one))
                    && (two < 0 || becomes(secondPremise(t), two));
            // A formula that stands in several places becomes the same in all of them. So one image
            // for each is enough, and one way from the highest number to the lowest reaches all parts.
            for (int p = FORMULAS_MAX - 1; p >= 0 && says; p--) {
                says = images[p] < 0 || partsBecome(p, images[p]);
            }
            return says;
        }

        int imageOfLetter(int letter) {
            int p = formulas.find(LETTER, letter, -1);
            return p >= 0 && p < FORMULAS_MAX ? images[p] : -1;
        }

        private boolean partsBecome(int p, int f) {
            int sort = formulas.sort(p);
            if (sort == LETTER) {
                return true;
            }
            return sort == formulas.sort(f)
                    && (sort < NOT || becomes(formulas.left(p), formulas.left(f)))
                    && (sort < AND || becomes(formulas.second(p), formulas.second(f)));
        }

        private boolean becomes(int p, int f) {
            if (p < 0 || p >= FORMULAS_MAX) {
                return false;
            }
            if (images[p] < 0) {
                images[p] = f;
            }
            return images[p] == f;
        }
    }

    /** The boxes of the proof that is written. The open ones are the innermost and all around it. */
    private static final class Boxes {
        private final int[] firsts = new int[LINES_MAX];
        private final int[] lasts = new int[LINES_MAX];
        private final int[] outers = new int[LINES_MAX];
        private int known;
        private int open;
        private int innermost = -1;

        int known() {
            return known;
        }

        int open() {
            return open;
        }

        int innermost() {
            return innermost;
        }

        int first(int b) {
            return b >= 0 && b < known ? firsts[b] : -1;
        }

        int last(int b) {
            return b >= 0 && b < known ? lasts[b] : -1;
        }

        int outer(int b) {
            return b >= 0 && b < known ? outers[b] : -1;
        }

        /** No box, told as -1, counts as open: nothing shuts what is in no box. */
        boolean isOpen(int b) {
            return b < 0 || (b < known && lasts[b] < 0);
        }

        // While a box is open, all boxes around it are: it is always the innermost that is shut.

        boolean canBeReferredTo(int b) {
            return b >= 0 && b < known && lasts[b] >= 0 && isOpen(outers[b]);
        }

        void clear() {
            known = 0;
            open = 0;
            innermost = -1;
        }

        void addAt(int line) {
            if (known >= 0 && known < LINES_MAX) {
                firsts[known] = line;
                lasts[known] = -1;
                outers[known] = innermost;
                innermost = known;
                known++;
                open++;
            }
        }

        void shutAt(int line) {
            int b = innermost;
            if (b >= 0 && b < known) {
                lasts[b] = line;
                innermost = outers[b];
                open--;
            }
        }

        void reopen(int b) {
            if (b >= 0 && b < known) {
                lasts[b] = -1;
                innermost = b;
                open++;
            }
        }

        void dropLatest() {
            int b = known - 1;
            if (b >= 0 && b < LINES_MAX) {
                innermost = outers[b];
                open--;
                known--;
            }
        }
    }

    /** The proof that is written: its lines, its boxes, and what was done to it. */
    private static final class Proof {
        private static final int LINE_ADDED = -1;
        private static final int DEEDS_MAX = 2 * LINES_MAX;

        private final Formulas formulas;
        private final Theorems theorems;
        private final Boxes boxes = new Boxes();
        private final int[] lineFormulas = new int[LINES_MAX];
        private final int[] lineRules = new int[LINES_MAX];
        private final int[] references = new int[3 * LINES_MAX];
        private final int[] kinds = new int[3 * LINES_MAX];
        private final int[] lineBoxes = new int[LINES_MAX];
        private final boolean[] needed = new boolean[LINES_MAX];
        /** LINE_ADDED, or the box that was closed. */
        private final int[] deeds = new int[DEEDS_MAX];
        private int deedCount;
        private int lineCount;

        Proof(Formulas formulas, Theorems theorems) {
            this.formulas = formulas;
            this.theorems = theorems;
        }

        int lineCount() {
            return lineCount;
        }

        int boxCount() {
            return boxes.known();
        }

        int openCount() {
            return boxes.open();
        }

        int premiseCount() {
            int premises = 0;
            for (int k = 0; k < lineCount && k < PREMISES_MAX; k++) {
                premises += lineRules[k] == Rules.PREMISE ? 1 : 0;
            }
            return premises;
        }

        int formulaOf(int line) {
            return line >= 0 && line < lineCount ? lineFormulas[line] : -1;
        }

        int ruleOf(int line) {
            return line >= 0 && line < lineCount ? lineRules[line] : -1;
        }

        int reference(int line, int which) {
            if (line < 0 || line >= lineCount || which < 0 || which > 2) {
                return 0;
            }
            return references[3 * line + which];
        }

        int boxOf(int line) {
            return line >= 0 && line < lineCount ? lineBoxes[line] : -1;
        }

        int firstLine(int box) {
            return boxes.first(box);
        }

        int lastLine(int box) {
            return boxes.last(box);
        }

        int outerBox(int box) {
            return boxes.outer(box);
        }

        int beginOf(int box) {
            return formulaOf(boxes.first(box));
        }

        int endOf(int box) {
            return formulaOf(boxes.last(box));
        }

        boolean seesLine(int line) {
            return line >= 0 && line < lineCount && boxes.isOpen(lineBoxes[line]);
        }

        boolean seesBox(int box) {
            return boxes.canBeReferredTo(box);
        }

        void clear() {
            boxes.clear();
            deedCount = 0;
            lineCount = 0;
        }

        int add(int f, int rule, int a, int b, int c) {
            int line = lineCount;
            if (line < 0 || line >= LINES_MAX) {
                return -1;
            }
            lineFormulas[line] = f;
            lineRules[line] = rule;
            refer(3 * line, kind(rule, 0, a), a);
            refer(3 * line + 1, kind(rule, 1, a), b);
            refer(3 * line + 2, kind(rule, 2, a), c);
            lineBoxes[line] = boxes.innermost();
            lineCount++;
            noteDeed(LINE_ADDED);
            return line;
        }

        private void refer(int place, int kind, int reference) {
            if (place >= 0 && place < references.length) {
                kinds[place] = kind;
                references[place] = kind == Rules.NOTHING ? 0 : reference;
            }
        }

        /** The box begins with the line that is added next. */
        void openBox() {
            boxes.addAt(lineCount);
        }

        int shutBox() {
            int box = boxes.innermost();
            boxes.shutAt(latestLineOf(box));
            noteDeed(box);
            return box;
        }

        private int latestLineOf(int box) {
            for (int k = Math.min(LINES_MAX, lineCount) - 1; k >= 0; k--) {
                if (lineBoxes[k] == box) {
                    return k;
                }
            }
            return -1;
        }

        private void noteDeed(int deed) {
            if (deedCount >= 0 && deedCount < DEEDS_MAX) {
                deeds[deedCount] = deed;
                deedCount++;
            }
        }

        boolean wasBegun() {
            return deedCount > 0;
        }

        void takeBack() {
            int latest = deedCount - 1;
            if (latest < 0 || latest >= DEEDS_MAX) {
                return;
            }
            deedCount = latest;
            if (deeds[latest] != LINE_ADDED) {
                boxes.reopen(deeds[latest]);
                return;
            }
            if (ruleOf(lineCount - 1) == Rules.ASSUMPTION) {
                boxes.dropLatest();
            }
            lineCount = Math.max(0, lineCount - 1);
        }

        /** To what a reference of a rule refers; of a theorem only as many lines as it has premises. */
        int kind(int rule, int which, int a) {
            if (rule == Rules.THEOREM && which > theorems.premises(a)) {
                return Rules.NOTHING;
            }
            int k = 3 * rule + which;
            return k >= 0 && k < Rules.KINDS.length ? Rules.KINDS[k] : Rules.NOTHING;
        }

        boolean isNeeded(int line) {
            return neededCount() > 0 && line >= 0 && line < lineCount && needed[line];
        }

        /** Marks them, too. Lines refer to lines ahead of them alone, so one way back reaches all. */
        int neededCount() {
            int count = 0;
            int end = Math.min(LINES_MAX, lineCount);
            for (int k = 0; k < end; k++) {
                needed[k] = k == end - 1;
            }
            for (int k = end - 1; k >= 0; k--) {
                if (needed[k]) {
                    count++;
                    markReferences(k);
                }
            }
            return count;
        }

        private void markReferences(int line) {
            for (int k = 3 * line; k < 3 * line + 3 && k >= 0 && k < kinds.length; k++) {
                if (kinds[k] == Rules.LINE) {
                    mark(references[k]);
                } else if (kinds[k] == Rules.BOX) {
                    mark(boxes.first(references[k]));
                    mark(boxes.last(references[k]));
                }
            }
        }

        private void mark(int line) {
            if (line >= 0 && line < lineCount) {
                needed[line] = true;
            }
        }

        int failures(int line) {
            int sets = 0;
            for (int word = 0; word < Formulas.WORDS; word++) {
                sets += Long.bitCount(failuresIn(line, word));
            }
            return sets;
        }

        private long failuresIn(int line, int word) {
            long sets = ~formulas.truth(formulaOf(line), word);
            int premises = premiseCount();
            for (int k = 0; k < premises; k++) {
                sets &= formulas.truth(formulaOf(k), word);
            }
            int box = boxOf(line);
            for (int n = 0; n < OPEN_MAX && box >= 0; n++) {
                sets &= formulas.truth(beginOf(box), word);
                box = boxes.outer(box);
            }
            return sets;
        }
    }

    /** The rules of the steps. */
    private static final class Rules {
        static final int THEOREM = 13;
        static final int ASSUMPTION = 14;
        static final int PREMISE = 15;

        static final int NOTHING = 0;
        static final int LINE = 1;
        static final int BOX = 2;
        static final int SAYING = 3;

        /** To what the references a, b and c of each rule refer. */
        static final int[] KINDS = {
            LINE, NOTHING, NOTHING,
            LINE, LINE, NOTHING,
            LINE, NOTHING, NOTHING,
            LINE, NOTHING, NOTHING,
            LINE, NOTHING, NOTHING,
            LINE, NOTHING, NOTHING,
            LINE, BOX, BOX,
            BOX, NOTHING, NOTHING,
            LINE, LINE, NOTHING,
            BOX, NOTHING, NOTHING,
            LINE, LINE, NOTHING,
            LINE, NOTHING, NOTHING,
            LINE, NOTHING, NOTHING,
            SAYING, LINE, LINE,
            NOTHING, NOTHING, NOTHING,
            NOTHING, NOTHING, NOTHING
        };

        private final Formulas formulas;
        private final Theorems theorems;
        private final Proof proof;
        private final int[] found = new int[4];

        Rules(Formulas formulas, Theorems theorems, Proof proof) {
            this.formulas = formulas;
            this.theorems = theorems;
            this.proof = proof;
        }

        /** Why a step is refused, 0 if it is not. */
        int refusal(int rule, int f, int a, int b, int c) {
            if (!reaches(proof.kind(rule, 0, a), a)
                    || !reaches(proof.kind(rule, 1, a), b)
                    || !reaches(proof.kind(rule, 2, a), c)) {
                return 1;
            }
            if (!hasForm(rule, a, b)) {
                return 2;
            }
            boolean fits = rule == THEOREM
                    ? theoremFits(f, a, b, c)
                    : firstFits(rule, f, a) && secondFits(rule, f, a, b) && thirdFits(rule, f, a, c);
            return fits ? 0 : 3;
        }

        private boolean reaches(int kind, int reference) {
            switch (kind) {
                case LINE:
                    return proof.seesLine(reference);
                case BOX:
                    return proof.seesBox(reference);
                case SAYING:
                    return theorems.isKnown(reference);
                default:
                    return true;
            }
        }

        private boolean hasForm(int rule, int a, int b) {
            int f = proof.formulaOf(a);
            switch (rule) {
                case 2:
                case 3:
                    return formulas.sort(f) == AND;
                case 6:
                    return formulas.sort(f) == OR;
                case 8:
                    return formulas.sort(f) == THEN;
                case 9:
                    return formulas.sort(proof.endOf(a)) == FALSE;
                case 10:
                    return formulas.sort(proof.formulaOf(b)) == NOT;
                case 11:
                    return formulas.sort(f) == FALSE;
                case 12:
                    return formulas.sort(f) == NOT && formulas.sort(formulas.left(f)) == NOT;
                default:
                    return true;
            }
        }

        // These three look at the references one after the other, so that a search need not go on
        // to b and c where a does not fit. What hasForm tells is not told again.

        private boolean firstFits(int rule, int f, int a) {
            int sort = formulas.sort(f);
            int of = proof.formulaOf(a);
            switch (rule) {
                case 0:
                    return of == f;
                case 1:
                    return sort == AND && formulas.left(f) == of;
                case 2:
                    return formulas.left(of) == f;
                case 3:
                case 8:
                    return formulas.second(of) == f;
                case 4:
                    return sort == OR && formulas.left(f) == of;
                case 5:
                    return sort == OR && formulas.second(f) == of;
                case 7:
                    return sort == THEN && formulas.left(f) == proof.beginOf(a)
                            && formulas.second(f) == proof.endOf(a);
                case 9:
                    return sort == NOT && formulas.left(f) == proof.beginOf(a);
                case 10:
                    return sort == FALSE;
                case 12:
                    return formulas.left(formulas.left(of)) == f;
                default:
                    return true;
            }
        }

        private boolean secondFits(int rule, int f, int a, int b) {
            switch (rule) {
                case 1:
                    return formulas.second(f) == proof.formulaOf(b);
                case 6:
                    return proof.beginOf(b) == formulas.left(proof.formulaOf(a)) && proof.endOf(b) == f;
                case 8:
                    return proof.formulaOf(b) == formulas.left(proof.formulaOf(a));
                case 10:
                    return formulas.left(proof.formulaOf(b)) == proof.formulaOf(a);
                default:
                    return true;
            }
        }

        private boolean thirdFits(int rule, int f, int a, int c) {
            return rule != 6
                    || (proof.beginOf(c) == formulas.second(proof.formulaOf(a)) && proof.endOf(c) == f);
        }

        private boolean theoremFits(int f, int a, int b, int c) {
            int premises = theorems.premises(a);
            int one = premises > 0 ? proof.formulaOf(b) : -1;
            int two = premises > 1 ? proof.formulaOf(c) : -1;
            return theorems.saysWithPremises(a, f, one, two);
        }

        /** Whether a formula follows by a rule; found() then tells the least references. */
        boolean search(int rule, int f) {
            for (int a = 0; a < choices(rule, 0); a++) {
                if (!reaches(proof.kind(rule, 0, a), a) || !firstFits(rule, f, a)) {
                    continue;
                }
                for (int b = 0; b < choices(rule, 1); b++) {
                    if (!reaches(proof.kind(rule, 1, a), b) || !secondFits(rule, f, a, b)) {
                        continue;
                    }
                    for (int c = 0; c < choices(rule, 2); c++) {
                        if (refusal(rule, f, a, b, c) == 0) {
                            keep(rule, a, b, c);
                            return true;
                        }
                    }
                }
            }
            return false;
        }

        /** How many references are to be tried; one that is not needed is tried as 0 alone. */
        private int choices(int rule, int which) {
            switch (proof.kind(rule, which, 0)) {
                case LINE:
                    return proof.lineCount();
                case BOX:
                    return proof.boxCount();
                default:
                    return 1;
            }
        }

        private void keep(int rule, int a, int b, int c) {
            found[0] = rule;
            found[1] = a;
            found[2] = b;
            found[3] = c;
        }

        int found(int which) {
            return which >= 0 && which < found.length ? found[which] : -1;
        }
    }
}
