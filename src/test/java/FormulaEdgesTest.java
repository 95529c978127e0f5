/**
 * The edges that the document names of formulas and of promises 1 to 10: for each sentence a test
 * of its own, on the last value that is allowed and on the first that is not.
 */
public final class FormulaEdgesTest extends Checks {
    private static final String SIGNS = "..-&|>";

    public static void main(String[] args) {
        aNewNotebookHasNothing();
        notebooksShareNothing();
        feedTakesTheHighestByteFirst();
        feedTakesAllBytesAsTheyAre();
        feedFillsTheTapeTo400();
        aRefusedFeedLeavesTheTape();
        allOfAFullTapeIsRead();
        trimKeepsAnythingFrom0ToTheTape();
        trimKeepsTheFirstBytes();
        lettersAreAToH();
        bytesBehindAForm();
        blanksStandAnywhere();
        noOtherByteIsABlank();
        thenIsOnceOrNotAtAll();
        orAndAndAnyNumberOfTimes();
        signsBindAsTheGrammarTells();
        notBindsAPlain();
        theTapeEndsTooEarly();
        depthOfBrackets();
        depthOfNots();
        depthOfThens();
        depthOfAllThree();
        depthEndsWithWhatHasIt();
        depthErrorIsAtTheFirstByte();
        theFirstErrorCounts();
        errorOneMakesNothingKnown();
        errorTwoIsBeyond240();
        errorTwoOnAFreshNotebook();
        errorTwoOnlyWithoutErrorOne();
        readEmptiesTheTape();
        errorAtIsOfTheLatestRead();
        partsBecomeKnownAhead();
        sortsOfMake();
        lettersOfMake();
        partsOfMake();
        whatDoesNotMatterToMake();
        makeFindsWhatIsKnown();
        makeFillsTo240();
        orderOfTheExceptionsOfMake();
        rangesOfFormula();
        partsThatAFormulaHasNot();
        lettersOfAFormula();
        truthsOfAFormula();
        sizesTo1000000();
        rangesOfIsTrue();
        truthOfTheSorts();
        rangesOfWrite();
        bracketsOfEachSort();
        paperOf400Bytes();
        bracketsCountAsBytes();
        aRefusedWriteLeavesThePaper();
        writeTakesThePlaceOfWhatWasThere();
        rangesOfByteAt();
        finish("the edges of formulas");
    }

    private static void aNewNotebookHasNothing() {
        part = "1: without formulas, lines and theorems, with an empty tape and an empty paper";
        ProofDesk x = new ProofDesk();
        for (int what = 0; what <= 8; what++) {
            due("count(" + what + ")", x.count(what), 0);
        }
        due("errorAt()", x.errorAt(), -1);
        same("thrift()", x.thrift(), 1.0);
        thrown("a formula", x, INDEX, () -> x.formula(0, 0));
        thrown("a line", x, INDEX, () -> x.line(0, 0));
        thrown("a box", x, INDEX, () -> x.box(0, 0));
        thrown("a theorem", x, INDEX, () -> x.theorem(0, 0));
        thrown("a byte of the tape", x, ARGUMENT, () -> x.trim(1));
        thrown("a byte of the paper", x, INDEX, () -> x.byteAt(0));
        thrown("something done", x, STATE, x::undo);
    }

    private static void notebooksShareNothing() {
        part = "1: a notebook of its own";
        ProofDesk x = new ProofDesk();
        ProofDesk y = new ProofDesk();
        long fresh = y.digest();
        x.make(0, 0, 0);
        x.premise(0);
        x.end();
        x.assume(0);
        x.write(0);
        read(x, "a b");
        feed(x, "b", 0);
        due("the other one's digest", y.digest(), fresh);
        due("the other one's errorAt", y.errorAt(), -1);
        due("one that is made later", new ProofDesk().digest(), fresh);
    }

    private static void feedTakesTheHighestByteFirst() {
        part = "2: twenty bytes, the four of each number, the highest one first";
        for (int place = 0; place < 20; place++) {
            ProofDesk x = new ProofDesk();
            int[] numbers = new int[5];
            for (int k = 0; k < 20; k++) {
                numbers[k / 4] |= (k < place ? ' ' : k == place ? 'h' : '?') << 24 - 8 * (k % 4);
            }
            due("feed", x.feed(numbers[0], numbers[1], numbers[2], numbers[3], numbers[4]), 20);
            due("trim behind the letter", x.trim(place + 1), place + 1);
            due("read at place " + place, x.read(), 0);
            due("its letter", x.formula(0, 1), 7);
            x.feed(numbers[0], numbers[1], numbers[2], numbers[3], numbers[4]);
            due("read without trim", x.read(), place < 19 ? -1 : 0);
            due("errorAt", x.errorAt(), place < 19 ? place + 1 : -1);
        }
    }

    private static void feedTakesAllBytesAsTheyAre() {
        part = "2: bytes above 127 and below 32 are bytes like others";
        int[] strange = {0, 1, 31, 127, 128, 160, 225, 255};
        for (int b : strange) {
            for (int place = 0; place < 4; place++) {
                ProofDesk x = new ProofDesk();
                int shift = 24 - 8 * place;
                due("feed", x.feed(0x20202020 & ~(255 << shift) | b << shift, 0x20202061, 0, 0, 0), 20);
                x.trim(8);
                due("read of the byte " + b, x.read(), -1);
                due("errorAt of the byte " + b, x.errorAt(), place);
            }
        }
    }

    private static void feedFillsTheTapeTo400() {
        part = "2: throws if there would be more than 400";
        ProofDesk x = new ProofDesk();
        for (int k = 1; k <= 20; k++) {
            due("feed " + k, feed(x, "", 0), 20 * k);
        }
        thrown("feed to 420", x, STATE, () -> feed(x, "", 0));
        x.trim(381);
        thrown("feed to 401", x, STATE, () -> feed(x, "", 0));
        x.trim(380);
        due("feed to 400", feed(x, "", 0), 400);
        thrown("feed to 420", x, STATE, () -> x.feed(MIN, MAX, 0, -1, 1));
    }

    private static void aRefusedFeedLeavesTheTape() {
        part = "2: what throws changes nothing, the tape neither";
        ProofDesk x = new ProofDesk();
        tape(x, "a>" + times(389, " ") + "b");
        thrown("feed to 412", x, STATE, () -> feed(x, "&c&c&c&c&c&c&c&c&c&c", 0));
        due("the tape is as it was", x.read(), 2);
        due("errorAt", x.errorAt(), -1);
        due("formulas", x.count(0), 3);
    }

    private static void allOfAFullTapeIsRead() {
        part = "2 and 4: a tape of at most 400 bytes";
        reads(times(399, " ") + "h", 0);
        reads("h" + times(399, " "), 0);
        refuses(times(400, " "), 400);
        refuses("a" + times(398, " ") + "?", 399);
        refuses("a" + times(398, " ") + "&", 400);
        ProofDesk x = new ProofDesk();
        due("200 letters", read(x, times(199, "a|") + "a "), 199);
        due("formulas", x.count(0), 200);
        refuses(times(200, "a&"), 400);
    }

    private static void trimKeepsAnythingFrom0ToTheTape() {
        part = "3: n is 0 to the number of bytes of the tape";
        ProofDesk x = new ProofDesk();
        due("trim(0) of none", x.trim(0), 0);
        thrown("trim(1) of none", x, ARGUMENT, () -> x.trim(1));
        thrown("trim(-1) of none", x, ARGUMENT, () -> x.trim(-1));
        feed(x, "a", 0);
        due("trim(20) of 20", x.trim(20), 20);
        thrown("trim(21) of 20", x, ARGUMENT, () -> x.trim(21));
        thrown("trim(-1) of 20", x, ARGUMENT, () -> x.trim(-1));
        thrown("trim(MIN) of 20", x, ARGUMENT, () -> x.trim(MIN));
        thrown("trim(MAX) of 20", x, ARGUMENT, () -> x.trim(MAX));
        due("trim(19) of 20", x.trim(19), 19);
        thrown("trim(20) of 19", x, ARGUMENT, () -> x.trim(20));
        due("bytes", x.count(1), 19);
        due("trim(0)", x.trim(0), 0);
        due("bytes", x.count(1), 0);
        ProofDesk y = new ProofDesk();
        tape(y, times(400, " "));
        due("trim(400) of 400", y.trim(400), 400);
        thrown("trim(401) of 400", y, ARGUMENT, () -> y.trim(401));
    }

    private static void trimKeepsTheFirstBytes() {
        part = "3: shortens the tape to its first bytes";
        ProofDesk x = new ProofDesk();
        tape(x, "a&b&c");
        x.trim(3);
        thrown("trim(4)", x, ARGUMENT, () -> x.trim(4));
        due("a&b is left", x.read(), 2);
        tape(x, "a|b|c");
        x.trim(2);
        due("feed goes on behind them", feed(x, "h", 0), 22);
        due("a|h", x.read(), 4);
        due("its second part", x.formula(4, 2), 3);
        due("is h", x.formula(3, 1), 7);
    }

    private static void lettersAreAToH() {
        part = "a letter (a to h, numbered 0 to 7), the false #";
        for (int b = 0; b < 256; b++) {
            ProofDesk x = new ProofDesk();
            x.feed(b << 24, 0, 0, 0, 0);
            x.trim(1);
            boolean letter = b >= 'a' && b <= 'h';
            boolean good = letter || b == '#';
            boolean early = b == '-' || b == '(' || b == ' ';
            due("read of the byte " + b, x.read(), good ? 0 : -1);
            due("errorAt of the byte " + b, x.errorAt(), good ? -1 : early ? 1 : 0);
            due("formulas of the byte " + b, x.count(0), good ? 1 : 0);
            if (good) {
                due("sort of the byte " + b, x.formula(0, 0), letter ? 0 : 1);
                due("letter of the byte " + b, x.formula(0, 1), letter ? b - 'a' : -1);
            }
        }
    }

    private static void bytesBehindAForm() {
        part = "error 1: the first byte with which the bytes so far are not the beginning of a form";
        for (int b = 0; b < 256; b++) {
            for (int open = 0; open < 2; open++) {
                ProofDesk x = new ProofDesk();
                x.feed(open == 0 ? 'a' << 24 | b << 16 : '(' << 24 | 'a' << 16 | b << 8, 0, 0, 0, 0);
                x.trim(open + 2);
                boolean good = b == ' ' && open == 0 || b == ')' && open == 1;
                boolean early = b == '&' || b == '|' || b == '>' || b == ' ';
                due("read of a and the byte " + b, x.read(), good ? 0 : -1);
                due("errorAt of a and the byte " + b, x.errorAt(), good ? -1 : early ? open + 2 : open + 1);
            }
        }
    }

    private static void blanksStandAnywhere() {
        part = "blanks can stand between the other bytes, at the beginning and at the end";
        String text = "-(a&#)|b>-h";
        StringBuilder wide = new StringBuilder("  ");
        for (int k = 0; k < text.length(); k++) {
            wide.append(text.charAt(k)).append(times(k % 3 + 1, " "));
        }
        reads(text, 8);
        reads(wide.toString(), 8);
        for (int k = 0; k <= text.length(); k++) {
            reads(text.substring(0, k) + " " + text.substring(k), 8);
        }
        refuses("a b", 2);
        refuses("a  &  ", 6);
        refuses("   ) ", 3);
    }

    private static void noOtherByteIsABlank() {
        part = "blanks (32), no other byte";
        int[] others = {0, 9, 10, 11, 12, 13, 31, 33, 160};
        for (int b : others) {
            refuses((char) b + "a", 0);
            refuses("a" + (char) b, 1);
            refuses("a&" + (char) b + "b", 2);
        }
    }

    private static void thenIsOnceOrNotAtAll() {
        part = "form = either [ \">\" form ]";
        reads("a", 0);
        reads("a>b", 2);
        reads("a>b>c", 4);
        refuses(">", 0);
        refuses("a>", 2);
        refuses(">a", 0);
        refuses("a>>b", 2);
        refuses("a>b>", 4);
    }

    private static void orAndAndAnyNumberOfTimes() {
        part = "either = both { \"|\" both }, both = plain { \"&\" plain }";
        for (String sign : new String[] {"|", "&"}) {
            reads("a" + sign + "b", 2);
            reads("a" + sign + "b" + sign + "c", 4);
            reads("a" + times(198, sign + "a"), 198);
            refuses(sign, 0);
            refuses("a" + sign, 2);
            refuses(sign + "a", 0);
            refuses("a" + sign + sign + "b", 2);
            refuses("a" + sign + "b" + sign, 4);
        }
        refuses("a|&b", 2);
        refuses("a&|b", 2);
        refuses("a&>b", 2);
        refuses("a>|b", 2);
    }

    private static void sortsAre(String text, int... sorts) {
        ProofDesk x = new ProofDesk();
        int f = read(x, text);
        due("sort of " + text, x.formula(f, 0), sorts[0]);
        for (int side = 1; side < sorts.length; side++) {
            due("sort of part " + side + " of " + text, x.formula(x.formula(f, side), 0), sorts[side]);
        }
    }

    private static void signsBindAsTheGrammarTells() {
        part = "| and & group from the left, > from the right, & binds ahead of | ahead of >";
        sortsAre("a&b&c", 3, 3, 0);
        sortsAre("a&(b&c)", 3, 0, 3);
        sortsAre("a|b|c", 4, 4, 0);
        sortsAre("a|(b|c)", 4, 0, 4);
        sortsAre("a>b>c", 5, 0, 5);
        sortsAre("(a>b)>c", 5, 5, 0);
        sortsAre("a&b|c", 4, 3, 0);
        sortsAre("a|b&c", 4, 0, 3);
        sortsAre("a&(b|c)", 3, 0, 4);
        sortsAre("(a|b)&c", 3, 4, 0);
        sortsAre("a|b>c", 5, 4, 0);
        sortsAre("a>b|c", 5, 0, 4);
        sortsAre("a|(b>c)", 4, 0, 5);
        sortsAre("a&b>c&d", 5, 3, 3);
        sortsAre("(a>b)&(c>d)", 3, 5, 5);
        sortsAre("a&b|c&d", 4, 3, 3);
    }

    private static void notBindsAPlain() {
        part = "plain = \"-\" plain | \"(\" form \")\"";
        sortsAre("-a&b", 3, 2, 0);
        sortsAre("a&-b", 3, 0, 2);
        sortsAre("-a|b", 4, 2, 0);
        sortsAre("-a>b", 5, 2, 0);
        sortsAre("-(a&b)", 2, 3);
        sortsAre("-(a>b)", 2, 5);
        sortsAre("--a", 2, 2);
        sortsAre("-#", 2, 1);
        sortsAre("((#))", 1);
        refuses("a-", 1);
        refuses("-&", 1);
        refuses("a(", 1);
        refuses("()", 1);
        refuses(")", 0);
        refuses("(a))", 3);
        refuses("ab", 1);
        refuses("##", 1);
    }

    private static void theTapeEndsTooEarly() {
        part = "error 1: the end of the tape, if it ends too early";
        String[] begun = {"", " ", "-", "(", "a>", "a|", "a&", "(a", "(a ", "-(a&b", "a>(b|", "((a)", "--", "a>-"};
        for (String text : begun) {
            refuses(text, text.length());
            refuses(text + "  ", text.length() + 2);
        }
    }

    private static void depthOfBrackets() {
        part = "depth: 1 greater between ( and its ), at most 10";
        reads(times(9, "(") + "a" + times(9, ")"), 0);
        reads(times(10, "(") + "a" + times(10, ")"), 0);
        refuses(times(11, "(") + "a" + times(11, ")"), 11);
        refuses(times(12, "(") + "a" + times(12, ")"), 11);
        reads(times(10, "(") + "a&b" + times(10, ")"), 2);
    }

    private static void depthOfNots() {
        part = "depth: 1 greater behind - for what it denies, at most 10";
        reads(times(9, "-") + "a", 9);
        reads(times(10, "-") + "a", 10);
        reads(times(10, "-") + "#", 10);
        refuses(times(11, "-") + "a", 11);
        refuses(times(12, "-") + "a", 11);
    }

    private static void depthOfThens() {
        part = "depth: 1 greater behind > for the form there, at most 10";
        reads(times(9, "a>") + "a", 9);
        reads(times(10, "a>") + "a", 10);
        refuses(times(11, "a>") + "a", 22);
        refuses(times(12, "a>") + "a", 22);
        reads(times(10, "a>") + "a&b|c", 14);
        refuses(times(10, "a>") + "-a", 21);
        refuses(times(10, "a>") + "(a)", 21);
        refuses(times(10, "a>") + "a>a", 22);
    }

    private static void depthOfAllThree() {
        part = "depth: all three ways together";
        reads("(-(a>-(a>(-(a)))))", 5);
        reads("(-(a>-(a>(-(a&b|c)))))", 9);
        refuses("(-(a>-(a>(-(-a)))))", 13);
        refuses("(-(a>-(a>(-((a))))))", 13);
        refuses("(-(a>-(a>(-(a>a)))))", 14);
    }

    private static void depthEndsWithWhatHasIt() {
        part = "depth: what is greater by ( or - or > ends with it";
        reads(times(10, "(") + "a" + times(10, ")") + "&" + times(10, "-") + "a", 11);
        reads(times(10, "-") + "a|" + times(10, "(") + "b" + times(10, ")"), 12);
        reads(times(10, "-") + "a&" + times(10, "-") + "b", 22);
        reads(times(10, "-") + "a>" + times(9, "-") + "b", 21);
        refuses(times(10, "-") + "a>" + times(10, "-") + "b", 22);
        reads("(" + times(9, "a>") + "a)", 9);
        refuses("(" + times(10, "a>") + "a)", 21);
        reads("(a>a>a)&" + times(10, "-") + "a", 13);
        refuses("(a>a>a)&" + times(11, "-") + "a", 19);
        reads("a>(a>a)&" + times(9, "-") + "a", 12);
        refuses("a>(a>a)&" + times(10, "-") + "a", 18);
        reads("-a&" + times(5, "-(") + "a" + times(5, ")"), 6);
        refuses("-a&" + times(5, "-(") + "-a" + times(5, ")"), 14);
    }

    private static void depthErrorIsAtTheFirstByte() {
        part = "error 1: the first byte of a form or plain whose depth would be 11";
        String[] ways = {times(11, "-"), times(11, "("), times(11, "a>"), times(5, "-(") + "-"};
        String[] first = {"a", "#", "-", "(", "&", ")", "?"};
        for (String way : ways) {
            for (String b : first) {
                refuses(way + b, way.length());
                refuses(way + "   " + b, way.length() + 3);
            }
            refuses(way, way.length());
            refuses(way + "   ", way.length() + 3);
        }
    }

    private static void theFirstErrorCounts() {
        part = "error 1: the first of several";
        refuses("a?b?", 1);
        refuses("?" + times(11, "-") + "a", 0);
        refuses(times(11, "-") + "a?", 11);
        refuses("a)" + times(11, "(") + "a", 1);
        refuses(times(11, "(") + "a", 11);
        refuses("(a&b) c (", 6);
    }

    private static void errorOneMakesNothingKnown() {
        part = "error 1: none becomes known";
        ProofDesk x = new ProofDesk();
        read(x, "a&b");
        long before = x.digest();
        due("many parts ahead of the error", read(x, "-c|d&(e>f)|g&-h?"), -1);
        due("errorAt", x.errorAt(), 15);
        due("digest", x.digest(), before);
        thrown("its first part", x, INDEX, () -> x.formula(3, 0));
        due("the next number is free", read(x, "h"), 3);
        due("its letter", x.formula(3, 1), 7);
        due("its letters", x.formula(3, 3), 128);
        due("c is not known", x.make(0, 2, 0), 4);
    }

    private static void errorTwoIsBeyond240() {
        part = "error 2 (at 0): more than 240 formulas would be known";
        ProofDesk x = withNots(239);
        long before = x.digest();
        due("two more", read(x, "-h"), -2);
        due("errorAt", x.errorAt(), 0);
        due("digest", x.digest(), before);
        due("three more", read(x, "a&(b)&a"), -2);
        due("digest", x.digest(), before);
        due("one more", read(x, "h"), 239);
        due("errorAt", x.errorAt(), -1);
        before = x.digest();
        due("none more", read(x, "--(a)"), 2);
        due("errorAt", x.errorAt(), -1);
        due("a letter", read(x, "b"), -2);
        due("errorAt", x.errorAt(), 0);
        due("the false", read(x, "  # "), -2);
        due("errorAt", x.errorAt(), 0);
        due("of known parts", read(x, "-a&h"), -2);
        due("digest", x.digest(), before);
        due("the tape", x.count(1), 0);
    }

    private static String nots() {
        StringBuilder text = new StringBuilder();
        for (char letter = 'a'; letter <= 'h'; letter++) {
            text.append(letter == 'a' ? "" : "&").append(times(10, "-")).append(letter);
        }
        return text.toString();
    }

    private static void errorTwoOnAFreshNotebook() {
        part = "error 2: by one tape alone";
        ProofDesk x = new ProofDesk();
        due("95 formulas", read(x, nots()), 94);
        ProofDesk y = new ProofDesk();
        due("240 formulas", read(y, nots() + times(145, "&a")), 239);
        due("formulas", y.count(0), 240);
        ProofDesk z = new ProofDesk();
        long before = z.digest();
        due("241 formulas", read(z, nots() + times(146, "&a")), -2);
        due("errorAt", z.errorAt(), 0);
        due("digest", z.digest(), before);
        due("the most that the tape holds", read(z, nots() + times(152, "&a")), -2);
        due("digest", z.digest(), before);
        due("the first one", read(z, "d"), 0);
    }

    private static void errorTwoOnlyWithoutErrorOne() {
        part = "error 2, only if there is no error 1";
        ProofDesk x = full();
        long before = x.digest();
        due("error 1 behind too many", read(x, "a&b&c)"), -1);
        due("errorAt", x.errorAt(), 5);
        due("the end behind too many", read(x, "(b>c"), -1);
        due("errorAt", x.errorAt(), 4);
        due("the depth behind too many", read(x, "b&" + times(11, "-") + "b"), -1);
        due("errorAt", x.errorAt(), 13);
        due("digest", x.digest(), before);
        ProofDesk y = new ProofDesk();
        due("241 formulas, then an error", read(y, nots() + times(146, "&a") + "?"), -1);
        due("errorAt", y.errorAt(), 95 + 2 * 146);
        due("formulas", y.count(0), 0);
    }

    private static void readEmptiesTheTape() {
        part = "read reads the tape, and it is empty behind it";
        ProofDesk x = withNots(239);
        tape(x, "-a");
        due("no error", x.read(), 1);
        due("bytes", x.count(1), 0);
        tape(x, "b)");
        due("error 1", x.read(), -1);
        due("bytes", x.count(1), 0);
        tape(x, "b&c");
        due("error 2", x.read(), -2);
        due("bytes", x.count(1), 0);
        due("an empty one", x.read(), -1);
        due("errorAt", x.errorAt(), 0);
        due("it is filled from its beginning", feed(x, "-a", 0), 20);
        due("read", x.read(), 1);
    }

    private static void errorAtIsOfTheLatestRead() {
        part = "5: the position of the error of the latest read; -1 if it had none, or there was none";
        ProofDesk x = new ProofDesk();
        due("none was read", x.errorAt(), -1);
        tape(x, "a?");
        due("still none", x.errorAt(), -1);
        x.read();
        due("error 1", x.errorAt(), 1);
        feed(x, "a", 0);
        x.trim(1);
        x.make(0, 0, 0);
        x.begin();
        due("nothing but read changes it", x.errorAt(), 1);
        x.read();
        due("no error", x.errorAt(), -1);
        read(x, "");
        due("the end of an empty tape", x.errorAt(), 0);
        read(x, "a&a>a");
        due("no error", x.errorAt(), -1);
    }

    private static void partsBecomeKnownAhead() {
        part = "its parts become known ahead of it, the left one first, each one likewise";
        ProofDesk x = new ProofDesk();
        due("read", read(x, "(c>a)|-(b&c)&a>#"), 9);
        int[][] want = {{0, 2, -1}, {0, 0, -1}, {5, 0, 1}, {0, 1, -1}, {3, 3, 0}, {2, 4, -1}, {3, 5, 1}, {4, 2, 6},
            {1, -1, -1}, {5, 7, 8}};
        for (int f = 0; f < want.length; f++) {
            for (int what = 0; what < 3; what++) {
                due("formula(" + f + ", " + what + ")", x.formula(f, what), want[f][what]);
            }
        }
        due("those that are known stay", read(x, "#>-d&c"), 13);
        due("d is the first new one", x.formula(10, 1), 3);
        due("-d the second", x.formula(11, 1), 10);
        due("-d&c the third", x.formula(12, 1), 11);
        due("and the last", x.formula(13, 1), 8);
    }

    private static void sortsOfMake() {
        part = "6: sort is 0 to 5";
        ProofDesk x = new ProofDesk();
        for (int sort = 0; sort <= 5; sort++) {
            due("sort " + sort, x.make(sort, 0, 0), sort);
            due("its sort", x.formula(sort, 0), sort);
        }
        for (int sort : new int[] {-1, 6, 7, MIN, MAX}) {
            thrown("sort " + sort, x, ARGUMENT, () -> x.make(sort, 0, 0));
        }
    }

    private static void lettersOfMake() {
        part = "6: (for 0) f is 0 to 7";
        ProofDesk x = new ProofDesk();
        for (int k = 7; k >= 0; k--) {
            due("letter " + k, x.make(0, k, 0), 7 - k);
            due("its letter", x.formula(7 - k, 1), k);
            due("its set", x.formula(7 - k, 3), 1 << k);
        }
        for (int letter : new int[] {-1, 8, 9, MIN, MAX}) {
            thrown("letter " + letter, x, ARGUMENT, () -> x.make(0, letter, 0));
        }
    }

    private static void partsOfMake() {
        part = "6: a part that is needed is a formula";
        ProofDesk x = new ProofDesk();
        thrown("a not of none", x, INDEX, () -> x.make(2, 0, 0));
        x.make(0, 0, 0);
        thrown("an and with one", x, INDEX, () -> x.make(3, 0, 1));
        x.make(0, 1, 0);
        x.make(0, 2, 0);
        due("a not of the last", x.make(2, 2, 0), 3);
        for (int sort = 3; sort <= 5; sort++) {
            int last = sort;
            due("of the last and the first", x.make(sort, last, 0), sort + 1);
        }
        for (int bad : new int[] {-1, 7, MIN, MAX}) {
            thrown("a not of " + bad, x, INDEX, () -> x.make(2, bad, 0));
        }
        for (int sort = 3; sort <= 5; sort++) {
            int which = sort;
            ProofDesk y = new ProofDesk();
            y.make(0, 0, 0);
            for (int bad : new int[] {-1, 1, MIN, MAX}) {
                thrown("first part " + bad, y, INDEX, () -> y.make(which, bad, 0));
                thrown("second part " + bad, y, INDEX, () -> y.make(which, 0, bad));
            }
            due("first and second part 0", y.make(which, 0, 0), 1);
        }
    }

    private static void whatDoesNotMatterToMake() {
        part = "6: f does not matter for 1, g only for 3 to 5";
        ProofDesk x = new ProofDesk();
        for (int any : new int[] {0, -1, 8, 240, MIN, MAX}) {
            due("a letter", x.make(0, 5, any), 0);
            due("the false", x.make(1, any, any), 1);
            due("the false", x.make(1, any, 0), 1);
            due("a not", x.make(2, 0, any), 2);
        }
        due("formulas", x.count(0), 3);
        due("second part of the letter", x.formula(0, 2), -1);
        due("first part of the false", x.formula(1, 1), -1);
        due("second part of the not", x.formula(2, 2), -1);
    }

    private static void makeFindsWhatIsKnown() {
        part = "6: its number, the same each time";
        ProofDesk x = new ProofDesk();
        x.make(0, 0, 0);
        x.make(0, 1, 0);
        int next = 2;
        for (int sort = 3; sort <= 5; sort++) {
            due("a, b", x.make(sort, 0, 1), next);
            due("b, a", x.make(sort, 1, 0), next + 1);
            due("a, a", x.make(sort, 0, 0), next + 2);
            due("a, b again", x.make(sort, 0, 1), next);
            due("b, a again", x.make(sort, 1, 0), next + 1);
            next += 3;
        }
        due("not a", x.make(2, 0, 0), next);
        due("not b", x.make(2, 1, 0), next + 1);
        due("not a again", x.make(2, 0, 1), next);
        due("one that was read", read(x, "c&-c"), next + 4);
        due("is found", x.make(3, next + 2, next + 3), next + 4);
        due("one that was made", read(x, "b>a"), 9);
        due("formulas", x.count(0), next + 5);
    }

    private static void makeFillsTo240() {
        part = "6: throws if it is not known, and 240 are";
        ProofDesk x = withNots(239);
        due("formula 239", x.make(0, 7, 0), 239);
        for (int sort = 0; sort <= 5; sort++) {
            int which = sort;
            thrown("sort " + sort, x, STATE, () -> x.make(which, which == 0 ? 1 : 238, 239));
        }
        due("formulas", x.count(0), 240);
        due("the last one again", x.make(0, 7, 0), 239);
        due("the last not again", x.make(2, 237, 0), 238);
        due("the first one again", x.make(0, 0, 0), 0);
    }

    private static void orderOfTheExceptionsOfMake() {
        part = "6: the exception that is named first";
        ProofDesk x = full();
        thrown("sort and parts", x, ARGUMENT, () -> x.make(6, 240, 240));
        thrown("letter and 240", x, ARGUMENT, () -> x.make(0, 8, 0));
        thrown("part and 240", x, INDEX, () -> x.make(2, 240, 0));
        thrown("first part and 240", x, INDEX, () -> x.make(3, -1, 0));
        thrown("second part and 240", x, INDEX, () -> x.make(5, 0, 240));
        thrown("240 alone", x, STATE, () -> x.make(3, 0, 239));
    }

    private static void rangesOfFormula() {
        part = "7: there is such a formula, what is 0 to 5";
        ProofDesk x = new ProofDesk();
        thrown("formula 0 of none", x, INDEX, () -> x.formula(0, 0));
        x.make(0, 3, 0);
        due("formula 0 of one", x.formula(0, 1), 3);
        thrown("formula 1 of one", x, INDEX, () -> x.formula(1, 0));
        x.make(1, 0, 0);
        due("what 0", x.formula(1, 0), 1);
        due("what 5", x.formula(1, 5), 1);
        for (int bad : new int[] {-1, 6, MIN, MAX}) {
            thrown("what " + bad, x, INDEX, () -> x.formula(1, bad));
        }
        for (int bad : new int[] {-1, 2, MIN, MAX}) {
            thrown("formula " + bad, x, INDEX, () -> x.formula(bad, 0));
        }
        ProofDesk y = full();
        due("formula 239 of 240", y.formula(239, 1), 238);
        thrown("formula 240 of 240", y, INDEX, () -> y.formula(240, 1));
        thrown("what 6 of formula 239", y, INDEX, () -> y.formula(239, 6));
    }

    private static void partsThatAFormulaHasNot() {
        part = "7: 1 its letter, or first part, 2 its second part (-1 if it has none)";
        ProofDesk x = new ProofDesk();
        x.make(1, 0, 0);
        x.make(0, 7, 0);
        x.make(2, 1, 0);
        x.make(3, 2, 1);
        x.make(4, 0, 3);
        x.make(5, 4, 0);
        int[][] want = {{-1, -1}, {7, -1}, {1, -1}, {2, 1}, {0, 3}, {4, 0}};
        for (int f = 0; f < want.length; f++) {
            due("formula(" + f + ", 1)", x.formula(f, 1), want[f][0]);
            due("formula(" + f + ", 2)", x.formula(f, 2), want[f][1]);
        }
    }

    private static void lettersOfAFormula() {
        part = "7: 3 the set of the letters that stand in it";
        ProofDesk x = new ProofDesk();
        due("none", x.formula(read(x, "#>-#"), 3), 0);
        due("a", x.formula(read(x, "a&a"), 3), 1);
        due("h", x.formula(read(x, "-h|#"), 3), 128);
        due("all", x.formula(read(x, "a&b|c>d&(e|-f)&g|h"), 3), 255);
        due("all but a", x.formula(read(x, "b|c>d&(e|-f)&g|h"), 3), 254);
        due("also one that does not matter", x.formula(read(x, "#&c"), 3), 4);
    }

    private static void truthsOfAFormula() {
        part = "7: 4 for how many of the 256 sets of letters it is true";
        ProofDesk x = new ProofDesk();
        due("none", x.formula(read(x, "#"), 4), 0);
        due("none", x.formula(read(x, "h&-h"), 4), 0);
        due("one", x.formula(read(x, "a&b&c&d&e&f&g&h"), 4), 1);
        due("half", x.formula(read(x, "h"), 4), 128);
        due("all but one", x.formula(read(x, "a&b&c&d&e&f&g>-h"), 4), 255);
        due("all", x.formula(read(x, "g>g"), 4), 256);
        due("all", x.formula(read(x, "-#"), 4), 256);
    }

    private static void sizesTo1000000() {
        part = "7: 5 how many signs stand in it, but at most 1000000";
        ProofDesk x = new ProofDesk();
        x.make(0, 0, 0);
        for (int k = 0; k < 18; k++) {
            x.make(3 + k % 3, k, k);
            due("size", x.formula(k + 1, 5), (2 << k + 1) - 1);
        }
        // 999999 = 524287 + 262143 + 131071 + 65535 + 16383 + 511 + 63 and six signs between them.
        int f = x.make(4, 8, 5);
        for (int part : new int[] {13, 15, 16, 17, 18}) {
            f = x.make(4, part, f);
        }
        int near = f;
        due("the last size below it", x.formula(near, 5), 999999);
        due("the bound itself", x.formula(x.make(2, near, 0), 5), 1000000);
        due("1000001 signs", x.formula(x.make(5, near, 0), 5), 1000000);
        due("1000001 signs, the other way", x.formula(x.make(4, 0, near), 5), 1000000);
        due("1999999 signs", x.formula(x.make(3, near, near), 5), 1000000);
        int above = x.make(2, x.make(2, near, 0), 0);
        due("a not above it", x.formula(above, 5), 1000000);
        for (int k = 0; k < 70; k++) {
            above = x.make(3, above, above);
            due("far above it", x.formula(above, 5), 1000000);
        }
        ProofDesk y = new ProofDesk();
        int[] sizes = {1, 2, 1, 4, 1, 6, 1, 1, 3, 10};
        int last = read(y, "-a&b|c>(#>d)");
        for (int k = 0; k < sizes.length; k++) {
            due("size of " + k, y.formula(k, 5), sizes[k]);
        }
        due("each as often as it does", y.formula(y.make(3, last, last), 5), 21);
    }

    private static void rangesOfIsTrue() {
        part = "8: there is such a formula, set is 0 to 255";
        ProofDesk x = new ProofDesk();
        thrown("formula 0 of none", x, INDEX, () -> x.isTrue(0, 0));
        x.make(0, 7, 0);
        due("set 0", x.isTrue(0, 0) ? 1 : 0, 0);
        due("set 255", x.isTrue(0, 255) ? 1 : 0, 1);
        for (int bad : new int[] {-1, 256, MIN, MAX}) {
            thrown("set " + bad, x, ARGUMENT, () -> x.isTrue(0, bad));
        }
        for (int bad : new int[] {-1, 1, MIN, MAX}) {
            thrown("formula " + bad, x, INDEX, () -> x.isTrue(bad, 0));
            thrown("the formula goes ahead", x, INDEX, () -> x.isTrue(bad, 256));
        }
        ProofDesk y = full();
        due("formula 239", y.isTrue(239, 0) ? 1 : 0, 1);
        thrown("formula 240", y, INDEX, () -> y.isTrue(240, 0));
    }

    private static void truthOfTheSorts() {
        part = "true: a letter if it is in the set, # is false, f > g is false only if f is true and g false";
        for (int one = 0; one < 8; one++) {
            int two = (one + 5) % 8;
            ProofDesk x = new ProofDesk();
            x.make(0, one, 0);
            x.make(0, two, 0);
            int[] fs = {x.make(1, 0, 0), x.make(2, 0, 0), x.make(3, 0, 1), x.make(4, 0, 1), x.make(5, 0, 1), 0, 1};
            int[][] want = {{0, 0, 0, 0}, {1, 0, 1, 0}, {0, 0, 0, 1}, {0, 1, 1, 1}, {1, 0, 1, 1}, {0, 1, 0, 1}, {0, 0, 1, 1}};
            for (int way = 0; way < 4; way++) {
                int both = (way & 1) << one | (way >> 1) << two;
                int others = 255 & ~(1 << one | 1 << two);
                for (int k = 0; k < fs.length; k++) {
                    due("formula " + fs[k] + " for " + both, x.isTrue(fs[k], both) ? 1 : 0, want[k][way]);
                    due("with all others", x.isTrue(fs[k], both | others) ? 1 : 0, want[k][way]);
                }
            }
        }
    }

    private static void rangesOfWrite() {
        part = "9: there is such a formula";
        ProofDesk x = new ProofDesk();
        thrown("formula 0 of none", x, INDEX, () -> x.write(0));
        x.make(0, 0, 0);
        due("formula 0 of one", x.write(0), 1);
        for (int bad : new int[] {-1, 1, MIN, MAX}) {
            thrown("formula " + bad, x, INDEX, () -> x.write(bad));
        }
        ProofDesk y = full();
        due("formula 239", y.write(239), 240);
        thrown("formula 240", y, INDEX, () -> y.write(240));
    }

    /** The brackets that the document tells: part of -; of an and; of an or; of a then. */
    private static void bracketsOfEachSort() {
        part = "9: no more ( and ) than are needed";
        String[] parts = {"a", "#", "-a", "a&b", "a|b", "a>b"};
        String[] left = {"", "", "nnnyyy", "nnnnyy", "nnnnny", "nnnnny"};
        String[] right = {"", "", "", "nnnyyy", "nnnnyy", "nnnnnn"};
        for (int sort = 2; sort <= 5; sort++) {
            for (int inner = 0; inner <= 5; inner++) {
                ProofDesk x = new ProofDesk();
                int f = read(x, parts[inner]);
                int c = x.make(0, 2, 0);
                String onTheLeft = left[sort].charAt(inner) == 'y' ? "(" + parts[inner] + ")" : parts[inner];
                if (sort == 2) {
                    same("a part of -", written(x, x.make(2, f, 0)), "-" + onTheLeft);
                    continue;
                }
                String sign = SIGNS.substring(sort, sort + 1);
                String onTheRight = right[sort].charAt(inner) == 'y' ? "(" + parts[inner] + ")" : parts[inner];
                same("on the left of " + sign, written(x, x.make(sort, f, c)), onTheLeft + sign + "c");
                same("on the right of " + sign, written(x, x.make(sort, c, f)), "c" + sign + onTheRight);
            }
        }
        String[] deep = {"-(a&-(b|-(c>-d)))", "a&(b&(c&d))", "a|(b|(c|d))", "((a>b)>c)>d", "a>b>c>d", "a&b&c&d",
            "(a|(b>c))&-(#&(a|b))", "--(--a&b)"};
        for (String text : deep) {
            writes(text, text);
        }
    }

    private static ProofDesk ands(int letters) {
        ProofDesk x = new ProofDesk();
        x.make(0, 0, 0);
        for (int k = 1; k < letters; k++) {
            x.make(3, k - 1, 0);
        }
        return x;
    }

    private static void paperOf400Bytes() {
        part = "9: throws if there would be more than 400";
        ProofDesk x = ands(201);
        due("399 bytes", x.write(199), 399);
        thrown("401 bytes", x, STATE, () -> x.write(200));
        int not = x.make(2, 0, 0);
        due("400 bytes", x.write(x.make(3, 198, not)), 400);
        int more = x.make(3, 198, x.make(2, not, 0));
        thrown("401 bytes by two nots", x, STATE, () -> x.write(more));
        writes(times(199, "a|") + "-a", times(199, "a|") + "-a");
    }

    private static void bracketsCountAsBytes() {
        part = "9: ( and ) are bytes, too";
        ProofDesk x = new ProofDesk();
        x.make(0, 0, 0);
        for (int k = 1; k < 102; k++) {
            x.make(3, 0, k - 1);
        }
        int inner = 99;
        due("395 bytes", x.write(inner), 395);
        due("399 bytes", x.write(100), 399);
        thrown("403 bytes", x, STATE, () -> x.write(101));
        int not = x.make(2, 0, 0);
        int notnot = x.make(2, not, 0);
        due("400 bytes", x.write(x.make(3, not, inner)), 400);
        due("the last bracket", x.byteAt(399), ')');
        int more = x.make(3, notnot, inner);
        thrown("401 bytes", x, STATE, () -> x.write(more));
        int denied = x.make(2, 100, 0);
        thrown("402 bytes", x, STATE, () -> x.write(denied));
        due("398 bytes", x.write(x.make(2, inner, 0)), 398);
        ProofDesk y = full();
        int huge = 239;
        due("nested 239 deep", y.write(huge), 240);
        ProofDesk z = new ProofDesk();
        z.make(0, 0, 0);
        for (int k = 0; k < 239; k++) {
            z.make(5, k, k);
        }
        for (int f : new int[] {9, 31, 32, 63, 64, 239}) {
            thrown("a huge one, " + f, z, STATE, () -> z.write(f));
        }
    }

    private static void aRefusedWriteLeavesThePaper() {
        part = "9: what throws changes nothing, the paper neither";
        ProofDesk x = ands(210);
        int then = x.make(5, 0, 1);
        same("a short one", written(x, then), "a>a&a");
        thrown("a long one", x, STATE, () -> x.write(205));
        thrown("no formula", x, INDEX, () -> x.write(211));
        same("the paper", paper(x), "a>a&a");
        thrown("beyond it", x, INDEX, () -> x.byteAt(5));
    }

    private static void writeTakesThePlaceOfWhatWasThere() {
        part = "9: in the place of what was there";
        ProofDesk x = new ProofDesk();
        int longer = read(x, "-(a|b)");
        int shorter = read(x, "b");
        same("a long one", written(x, longer), "-(a|b)");
        same("a short one", written(x, shorter), "b");
        thrown("behind it", x, INDEX, () -> x.byteAt(1));
        same("a long one again", written(x, longer), "-(a|b)");
    }

    private static void rangesOfByteAt() {
        part = "10: there is such a place";
        ProofDesk x = new ProofDesk();
        thrown("place 0 of none", x, INDEX, () -> x.byteAt(0));
        x.make(0, 7, 0);
        x.write(0);
        due("place 0 of one", x.byteAt(0), 'h');
        for (int bad : new int[] {-1, 1, MIN, MAX}) {
            thrown("place " + bad, x, INDEX, () -> x.byteAt(bad));
        }
        ProofDesk y = ands(199);
        y.write(y.make(3, 198, y.make(2, 0, 0)));
        due("bytes", y.count(2), 400);
        due("place 399 of 400", y.byteAt(399), 'a');
        thrown("place 400 of 400", y, INDEX, () -> y.byteAt(400));
    }
}
