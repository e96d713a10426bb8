/**
 * A test for each sentence of section 'Terms' (and of 'What it is') that names a boundary case; the sentence
 * that a test stands for is told by Check.about, in the document's words.
 */
public final class TermsBoundaryTest {
    private static final String LETTERS = "abcd";

    private TermsBoundaryTest() {
    }

    public static void main(String[] args) {
        the512thCall();
        textOfAtMost80();
        charactersFrom32To126();
        oneTermOrMore();
        oneFactorOrMore();
        anyNumberOfSigns();
        digitsFrom0To9();
        lettersFromAToD();
        pointIsAnyLetter();
        oneOrMoreInBrackets();
        oneAgainInBrackets();
        parenthesesAroundAnExpression();
        blanksBeforeAndBehind();
        noBlankBeforeTheDigit();
        noBlankInBrackets();
        atMost8Deep();
        atMost30Positions();
        positionsAreNotParentheses();
        positionWithoutActions();
        eitherHasWhatBothHave();
        eitherIsEmptyIfOneIs();
        chainWithStepsOfBoth();
        chainBeginsBehindEmpty();
        chainEndsBeforeEmpty();
        chainIsEmptyIfBothAre();
        repeatKeepsTheStepThatWasThere();
        repeatMayBeEmpty();
        onceOrMoreIsEmptyOnlyIfItsPartIs();
        perhapsIsEmptyButHasNoNewStep();
        enteringOnlyAtFirstOnes();
        leavingAlsoAtNothing();
        everyFirstOneAndStep();
        onlyThoseThatAreLast();
        samePositionWithTwoSets();
        theBeginningHasNoPositions();
        firstOnesFromTheBeginningOnly();
        actionsOfAllTogether();
        noWay();
        foundInOrderByLetters();
        aSetThatWasThere();
        atMost50States();
        finalIfOneIsLast();
        endActionsTogether();
        alikeOnlyIfEndsAreTheSame();
        alikeOnlyIfWaysAreTheSame();
        asManyAlikeAsPossible();
        classIsTheLeast();
        Check.finish();
    }

    private static void about(String sentence) {
        Check.about("Terms", sentence);
    }

    private static void statesOf(String text, int due) {
        EmbedForge x = Check.with(text);
        Check.due("compile of '" + text + "'", due, x::compile);
        Check.due("where() of '" + text + "'", -2, x::where);
    }

    /** What way and actions answer for the letters a to d, one behind the other. */
    private static void waysFrom(EmbedForge x, int s, int... due) {
        for (int letter = 0; letter < 4; letter++) {
            int each = letter;
            Check.due("way(" + s + ", " + letter + ")", due[letter], () -> x.way(s, each));
        }
    }

    private static void the512thCall() {
        Check.about("What it is", "An object is used for at most 512 calls after it has been made");
        EmbedForge x = new EmbedForge();
        Check.due("call 1", 5, () -> x.text(Check.pack("a$7%8")));
        Check.due("call 2", 6, () -> x.text('*'));
        Check.due("call 3", 2, x::compile);
        for (int call = 4; call <= 509; call++) {
            Check.due("call " + call, call == 4 ? 128 : 128 | 256, () -> x.feed(0));
        }
        Check.due("call 510", 506, () -> x.count(6));
        Check.due("call 511", 505, () -> x.count(18));
        Check.due("call 512", 506, () -> x.count(17));
    }

    private static void textOfAtMost80() {
        about("THE TEXT is a row of at most 80 characters");
        EmbedForge x = Check.with("a" + "+".repeat(78));
        Check.due("79", 79, () -> x.count(0));
        Check.due("80", 80, () -> x.text('?'));
        Check.due("the 80th is read", 2, x::compile);
        Check.due("the 80th is read", 1, () -> x.state(0, 0));
        Check.fails("81", Check.STATE, () -> x.text('?'));
        Check.due("still 80", 80, () -> x.count(0));
    }

    private static void charactersFrom32To126() {
        about("(32 to 126)");
        for (int c = 0; c < 256; c++) {
            EmbedForge x = new EmbedForge();
            int each = c;
            if (c == 0) {
                Check.due("no character", 0, () -> x.text(each));
            } else if (c < 32 || c > 126) {
                Check.fails("character " + c, Check.ARGUMENT, () -> x.text(each));
            } else {
                Check.due("character " + c, 1, () -> x.text(each));
            }
        }
    }

    private static void oneTermOrMore() {
        about("AN EXPRESSION is one TERM or more with | between");
        Check.faultAt("", 0);
        statesOf("a", 2);
        statesOf("a|b", 3);
        statesOf("a|b|c|d", 5);
        Check.faultAt("|", 0);
        Check.faultAt("|a", 0);
        Check.faultAt("a|", 2);
        Check.faultAt("a||b", 2);
        Check.faultAt("a| |b", 3);
        Check.faultAt("(|a)", 1);
        Check.faultAt("(a|)", 3);
    }

    private static void oneFactorOrMore() {
        about("a TERM is one FACTOR or more, one behind the other");
        statesOf("a", 2);
        statesOf("ab", 3);
        statesOf("(a)[b].d", 5);
        Check.walk("abcd", "abcd", 0, 0, 0, 0, 0);
        Check.walk("abcd", "abc", 0, 0, 0, -1);
        Check.faultAt("a|*", 2);
    }

    private static void anyNumberOfSigns() {
        about("behind which there may be, any number of times, * + ? or > @ $ % and a digit");
        statesOf("a", 2);
        statesOf("a*", 2);
        statesOf("a" + "*".repeat(79), 2);
        statesOf("a" + "?+*".repeat(26) + "?", 2);
        statesOf("a" + ">0@1$2%3".repeat(9) + "%4%5%6", 2);
        Check.walk("a>0*@1+$2?%3", "aa", 7, 7, 8);
        for (char sign : "*+?>@$%".toCharArray()) {
            Check.faultAt(sign + "1", 0);
            Check.faultAt("(" + sign, 1);
            Check.faultAt("a|" + sign, 2);
        }
    }

    private static void digitsFrom0To9() {
        about("a digit (an ACTION, 0 to 9)");
        for (int n = 0; n < 10; n++) {
            Check.walk("a>" + n, "a", 1 << n, 0);
            Check.walk("a@" + n, "a", 1 << n, 0);
            Check.walk("a$" + n, "a", 1 << n, 0);
            Check.walk("a%" + n, "a", 0, 1 << n);
        }
        for (char sign : ">@$%".toCharArray()) {
            Check.faultAt("a" + sign, 2);
            Check.faultAt("a" + sign + "/", 2);
            Check.faultAt("a" + sign + ":", 2);
            Check.faultAt("a" + sign + "a", 2);
            Check.faultAt("a" + sign + sign + "1", 2);
            Check.faultAt("a" + sign + "10", 3);
        }
        Check.faultAt("a0", 1);
        Check.faultAt("0", 0);
    }

    private static void lettersFromAToD() {
        about("a letter a to d");
        for (int letter = 0; letter < 4; letter++) {
            EmbedForge x = Check.compiled(LETTERS.substring(letter, letter + 1));
            int[] due = {-1, -1, -1, -1};
            due[letter] = 1;
            waysFrom(x, 0, due);
            waysFrom(x, 1, -1, -1, -1, -1);
        }
        for (int c = 32; c < 127; c++) {
            if ("abcd.[( ".indexOf(c) < 0) {
                Check.faultAt(String.valueOf((char) c), 0);
            }
        }
    }

    private static void pointIsAnyLetter() {
        about(". (any letter)");
        waysFrom(Check.compiled("."), 0, 1, 1, 1, 1);
        Check.walk("....", LETTERS, 0, 0, 0, 0, 0);
    }

    private static void oneOrMoreInBrackets() {
        about("[ letters ], one or more of a to d");
        Check.faultAt("[]", 1);
        waysFrom(Check.compiled("[a]"), 0, 1, -1, -1, -1);
        waysFrom(Check.compiled("[d]"), 0, -1, -1, -1, 1);
        waysFrom(Check.compiled("[ca]"), 0, 1, -1, 1, -1);
        waysFrom(Check.compiled("[dcba]"), 0, 1, 1, 1, 1);
        Check.faultAt("[`]", 1);
        Check.faultAt("[e]", 1);
        Check.faultAt("[a`]", 2);
        Check.faultAt("[de]", 2);
        Check.faultAt("[.]", 1);
        Check.faultAt("[a|b]", 2);
        Check.faultAt("[[a]]", 1);
        Check.faultAt("[(a)]", 1);
        Check.faultAt("[a", 2);
        Check.faultAt("[", 1);
        Check.faultAt("a]", 1);
    }

    private static void oneAgainInBrackets() {
        about("(perhaps one again)");
        waysFrom(Check.compiled("[bb]"), 0, -1, 1, -1, -1);
        EmbedForge x = Check.compiled("[" + "ab".repeat(39) + "]");
        waysFrom(x, 0, 1, 1, -1, -1);
        Check.due("one position", 1, () -> x.count(3));
        Check.faultAt("[" + "a".repeat(79), 80);
    }

    private static void parenthesesAroundAnExpression() {
        about("( EXPRESSION )");
        statesOf("(a)", 2);
        statesOf("(a|b)", 3);
        Check.faultAt("()", 1);
        Check.faultAt("( )", 2);
        Check.faultAt("(", 1);
        Check.faultAt("(a", 2);
        Check.faultAt(")", 0);
        Check.faultAt("a)", 1);
        Check.faultAt("(a))", 3);
        Check.faultAt("((a)", 4);
        Check.faultAt(")a(", 0);
    }

    private static void blanksBeforeAndBehind() {
        about("Blanks may stand before and behind all of these");
        statesOf(" a", 2);
        statesOf("a ", 2);
        statesOf(" ".repeat(79) + "a", 2);
        statesOf("a" + " ".repeat(79), 2);
        statesOf("  a  |  b  ", 3);
        statesOf(" ( a | [ab]  . ) ", 4);
        Check.walk(" a >1 * @2 + ? %3 ", "aa", 6, 6, 8);
        Check.walk("( a ) %1 b", "ab", 0, 2, 0);
        Check.faultAt(" ", 1);
        Check.faultAt(" ".repeat(80), 80);
        Check.faultAt("a | ", 4);
        Check.faultAt("( a ", 4);
    }

    private static void noBlankBeforeTheDigit() {
        about("but not before the digit");
        for (char sign : ">@$%".toCharArray()) {
            statesOf("a " + sign + "1 ", 2);
            Check.faultAt("a" + sign + " 1", 2);
            Check.faultAt("a " + sign + " ", 3);
        }
    }

    private static void noBlankInBrackets() {
        about("and not between [ and ]");
        statesOf(" [ab] ", 2);
        Check.faultAt("[ ab]", 1);
        Check.faultAt("[a b]", 2);
        Check.faultAt("[ab ]", 3);
        Check.faultAt("[ ]", 1);
    }

    private static void atMost8Deep() {
        about("( lie at most 8 deep.");
        statesOf("(".repeat(8) + "a" + ")".repeat(8), 2);
        statesOf("(".repeat(8) + "a" + ")".repeat(8) + "(".repeat(8) + "b" + ")".repeat(8), 3);
        statesOf("((((((((a)|(b))(c)))))))", 4);
        Check.walk("((((((((a>0)>1)>2)>3)>4)>5)>6)>7)>8", "a", 511, 0);
        Check.walk("((((((((a%0)?%1)?%2)?%3)?%4)?%5)?%6)?%7)?%8", "", 510);
        Check.faultAt("(".repeat(9) + "a" + ")".repeat(9), 8);
        Check.faultAt("(".repeat(7) + "(a)" + "((b", 11);
        Check.faultAt("(".repeat(80), 8);
        Check.faultAt("(".repeat(8) + "a" + ")".repeat(9), 17);
        statesOf("(a)".repeat(9), 10);
    }

    private static void atMost30Positions() {
        about("Each ATOM that is no ( ) is a POSITION, numbered from 0 as they stand, at most 30, with its LETTERS.");
        statesOf("a".repeat(29), 30);
        statesOf("a".repeat(30), 31);
        statesOf("a|".repeat(29) + "a", 2);
        statesOf("[abcd]" + ".".repeat(29), 31);
        Check.faultAt("a".repeat(31), 30);
        Check.faultAt(".".repeat(31), 30);
        Check.faultAt("a".repeat(30) + "[b]", 30);
        Check.faultAt("a|".repeat(30) + "a", 60);
        EmbedForge x = Check.compiled("a>1|".repeat(12) + "a|" + "(a|".repeat(6) + "b" + ")".repeat(6));
        Check.due("20 positions", 20, () -> x.count(3));
        EmbedForge y = Check.compiled("(" + "a*".repeat(29) + "b$9)*");
        Check.due("30 positions", 30, () -> y.count(3));
        Check.due("29 of them at once", 29, () -> y.state(1, 3));
        Check.due("the last one has the other letter", 512, () -> y.actions(1, 1));
        Check.due("the last one alone", 1, () -> y.state(2, 3));
    }

    private static void positionsAreNotParentheses() {
        about("Each ATOM that is no ( ) is a POSITION");
        EmbedForge x = Check.compiled("((a)(b))([cd])(.)");
        Check.due("positions", 4, () -> x.count(3));
        statesOf("(a)".repeat(26), 27);
        EmbedForge y = Check.compiled("(((a)))");
        Check.due("position", 1, () -> y.count(3));
    }

    private static void positionWithoutActions() {
        about("A POSITION p: not EMPTY; p is FIRST and LAST, without ACTIONS.");
        Check.walk("a", "a", 0, 0);
        Check.walk("a", "", -1);
    }

    private static void eitherHasWhatBothHave() {
        about("e | f: what is FIRST, LAST, a STEP in e or f");
        Check.walk("a>1b%2|c>3d%4", "ab", 2, 0, 4);
        Check.walk("a>1b%2|c>3d%4", "cd", 8, 0, 16);
        Check.walk("a>1b%2|c>3d%4", "", -1);
        waysFrom(Check.compiled("ab|cd"), 1, -1, 3, -1, -1);
        waysFrom(Check.compiled("ab|cd"), 2, -1, -1, -1, 4);
        waysFrom(Check.compiled("ab|cd"), 3, -1, -1, -1, -1);
    }

    private static void eitherIsEmptyIfOneIs() {
        about("EMPTY if one is; NOTHING that of those that are, together.");
        Check.walk("a|b", "", -1);
        Check.walk("a?|b", "", 0);
        Check.walk("a|b?", "", 0);
        Check.walk("a?%1|b%2", "", 2);
        Check.walk("a%1|b?%2", "", 4);
        Check.walk("a?%1|b?%2", "", 6);
        Check.walk("a%1?|b%2?", "", 0);
    }

    private static void chainWithStepsOfBoth() {
        about("from each LAST x of e to each FIRST y of f, with the ACTIONS of both");
        Check.walk("a%1b>2", "ab", 0, 6, 0);
        Check.walk("(a%1|c)(b>2|d)", "ab", 0, 6, 0);
        Check.walk("(a%1|c)(b>2|d)", "ad", 0, 2, 0);
        Check.walk("(a%1|c)(b>2|d)", "cb", 0, 4, 0);
        Check.walk("(a%1|c)(b>2|d)", "cd", 0, 0, 0);
        Check.walk("a%1b?%2c>3", "ac", 0, 2 | 4 | 8, 0);
        Check.walk("a%1b?%2c>3", "abc", 0, 2, 4 | 8, 0);
    }

    private static void chainBeginsBehindEmpty() {
        about("FIRST are those of e, and, if e is EMPTY, of f, with NOTHING of e, too");
        Check.walk("a?%1b>2", "b", 6, 0);
        Check.walk("a?%1b>2", "ab", 0, 6, 0);
        Check.walk("a?%1b?%2c>3", "c", 14, 0);
        Check.walk("a%1?b", "b", 0, 0);
        waysFrom(Check.compiled("a?b"), 0, 1, 2, -1, -1);
        waysFrom(Check.compiled("ab"), 0, 1, -1, -1, -1);
    }

    private static void chainEndsBeforeEmpty() {
        about("LAST are those of f, and, if f is EMPTY, of e, with NOTHING of f, too");
        Check.walk("a%1b?%2", "a", 0, 6);
        Check.walk("a%1b?%2", "ab", 0, 2, 4);
        Check.walk("a%1b?%2c?%3", "a", 0, 14);
        Check.walk("ab%2?", "a", 0, 0);
        Check.walk("a%1b%2", "a", 0, -1);
    }

    private static void chainIsEmptyIfBothAre() {
        about("EMPTY if both are, NOTHING being both together.");
        Check.walk("a?%1b?%2", "", 6);
        Check.walk("a?%1b?%2c*%3", "", 14);
        Check.walk("a?%1b", "", -1);
        Check.walk("ab?%1", "", -1);
        Check.walk("(a?%1b)?", "", 0);
        Check.walk("(ab?%1)*", "", 0);
    }

    private static void repeatKeepsTheStepThatWasThere() {
        about("from each LAST x to each FIRST y, with the ACTIONS of both (and those of the STEP that was there)");
        Check.walk("a>1%2*", "aa", 2, 6, 4);
        Check.walk("(a>1*)>2*", "aa", 6, 6, 0);
        Check.walk("(a>1+>2%3)+", "aa", 6, 14, 8);
        Check.walk("(a$1+)%2*", "aa", 2, 6, 4);
        Check.walk("(a*$1)%2+", "aa", 2, 6, 4);
        Check.walk("(a?%1b?%2)*", "ba", 2, 4, 6);
        Check.walk("(ab)%1*", "aba", 0, 0, 2, -1);
    }

    private static void repeatMayBeEmpty() {
        about("EMPTY; NOTHING that of e, if it is EMPTY, else none.");
        Check.walk("a*", "", 0);
        Check.walk("(a%1)*", "", 0);
        Check.walk("(a?%1)*", "", 2);
        Check.walk("(a?%1)**", "", 2);
        Check.walk("(a%1b?%2)*", "", 0);
    }

    private static void onceOrMoreIsEmptyOnlyIfItsPartIs() {
        about("e +: likewise, but EMPTY only if e is.");
        Check.walk("a+", "", -1);
        Check.walk("a+", "aaa", 0, 0, 0, 0);
        Check.walk("(a?%1)+", "", 2);
        Check.walk("(a%1)+?", "", 0);
        Check.walk("(a>1%2)+", "aa", 2, 6, 4);
    }

    private static void perhapsIsEmptyButHasNoNewStep() {
        about("e ?: as e, but EMPTY, with NOTHING as for *.");
        Check.walk("a%1?", "", 0);
        Check.walk("(a?%1)?", "", 2);
        Check.walk("a%1?", "a", 0, 2);
        waysFrom(Check.compiled("a?"), 1, -1, -1, -1, -1);
        waysFrom(Check.compiled("(a+)?"), 1, 1, -1, -1, -1);
    }

    private static void enteringOnlyAtFirstOnes() {
        about("e > n: n comes to all FIRST ones.");
        Check.walk("(a|bc)>1", "a", 2, 0);
        Check.walk("(a|bc)>1", "bc", 2, 0, 0);
        Check.walk("(a?b)>1", "b", 2, 0);
        Check.walk("(a?b)>1", "ab", 2, 0, 0);
        Check.walk("a?>1", "", 0);
        Check.walk("a+>1", "aa", 2, 0, 0);
        Check.walk("a>1+", "aa", 2, 2, 0);
    }

    private static void leavingAlsoAtNothing() {
        about("e % n: to all LAST ones, and to NOTHING, if e is EMPTY.");
        Check.walk("(a|bc)%1", "a", 0, 2);
        Check.walk("(a|bc)%1", "bc", 0, 0, 2);
        Check.walk("(ab?)%1", "a", 0, 2);
        Check.walk("a?%1", "", 2);
        Check.walk("a%1", "", -1);
        Check.walk("a%1?", "", 0);
        Check.walk("a%1?%2", "", 4);
        Check.walk("a+%1", "aa", 0, 0, 2);
        Check.walk("a%1+", "aa", 0, 2, 2);
    }

    private static void everyFirstOneAndStep() {
        about("e $ n: to all FIRST ones and all STEPS.");
        Check.walk("(abc)$1", "abc", 2, 2, 2, 0);
        Check.walk("a(bc)$1d", "abcd", 0, 2, 2, 0, 0);
        Check.walk("a(bc)+$1d", "abcbcd", 0, 2, 2, 2, 2, 0, 0);
        Check.walk("(ab)$1+", "abab", 2, 2, 2, 2, 0);
        Check.walk("((ab)%2)+$1", "abab", 2, 2, 6, 2, 4);
        Check.walk("(a|b)$1(c|d)", "ac", 2, 0, 0);
        Check.walk("a?$1", "", 0);
    }

    private static void onlyThoseThatAreLast() {
        about("e @ n: to those FIRST ones, and those STEPS to, POSITIONS that are LAST.");
        Check.walk("a@1", "a", 2, 0);
        Check.walk("(ab)@1", "ab", 0, 2, 0);
        Check.walk("(ab?c?)@1", "abc", 2, 2, 2, 0);
        Check.walk("(ab?c)@1", "abc", 0, 0, 2, 0);
        Check.walk("(ab)+@1", "abab", 0, 2, 0, 2, 0);
        Check.walk("(ab)@1+", "abab", 0, 2, 0, 2, 0);
        Check.walk("a(b|cd)@1", "ab", 0, 2, 0);
        Check.walk("a(b|cd)@1", "acd", 0, 0, 2, 0);
        Check.walk("a?@1", "", 0);
    }

    private static void samePositionWithTwoSets() {
        about("(The same POSITION with two sets of ACTIONS has both together.)");
        Check.walk("a>1>2", "a", 6, 0);
        Check.walk("a>1>1", "a", 2, 0);
        Check.walk("(a%1)%2", "a", 0, 6);
        Check.walk("(a>1)*>2@3$4", "a", 2 | 4 | 8 | 16, 0);
        Check.walk("a>1|a>2", "a", 6, 0);
        Check.walk("((a>1)+%2)+", "aa", 2, 6, 4);
    }

    private static void theBeginningHasNoPositions() {
        about("STATE 0 is the beginning, where there are none yet.");
        for (String text : new String[] {"a", "a*", "(a|b)*", "a".repeat(30)}) {
            EmbedForge x = Check.compiled(text);
            Check.due("positions at the beginning of " + text, 0, () -> x.state(0, 3));
        }
    }

    private static void firstOnesFromTheBeginningOnly() {
        about("With a LETTER it goes from STATE 0 to the set of the FIRST POSITIONS that have it, from others"
                + " to that of the POSITIONS with it that a STEP leads to from one of them");
        EmbedForge x = Check.compiled("ab|[ac]d|.");
        waysFrom(x, 0, 1, 2, 3, 2);
        waysFrom(x, 1, -1, 4, -1, 5);
        waysFrom(x, 2, -1, -1, -1, -1);
        waysFrom(x, 3, -1, -1, -1, 5);
        Check.due("three of them", 3, () -> x.state(1, 3));
        Check.due("one of them", 1, () -> x.state(2, 3));
        Check.due("two of them", 2, () -> x.state(3, 3));
    }

    private static void actionsOfAllTogether() {
        about("with the ACTIONS of all these FIRST ones, or STEPS, together");
        Check.walk("a>0|a>9|[ab]>5|b>4", "a", 1 | 512 | 32, 0);
        Check.walk("a>0|a>9|[ab]>5|b>4", "b", 32 | 16, 0);
        Check.walk("a%1(c>2|c>3|d>4)|a%5c>6|b%7c>8", "ac", 0, 2 | 4 | 8 | 32 | 64, 0);
        Check.walk("a%1(c>2|c>3|d>4)|a%5c>6|b%7c>8", "ad", 0, 2 | 16, 0);
        Check.walk("a%1(c>2|c>3|d>4)|a%5c>6|b%7c>8", "bc", 0, 128 | 256, 0);
    }

    private static void noWay() {
        about("if there are none there is no way.");
        EmbedForge x = Check.compiled("a>1b>2");
        waysFrom(x, 0, 1, -1, -1, -1);
        waysFrom(x, 1, -1, 2, -1, -1);
        waysFrom(x, 2, -1, -1, -1, -1);
    }

    private static void foundInOrderByLetters() {
        about("They are found from each STATE in order by LETTERS a to d");
        waysFrom(Check.compiled("d|c|b|a"), 0, 1, 2, 3, 4);
        waysFrom(Check.compiled("d|b"), 0, -1, 1, -1, 2);
        EmbedForge x = Check.compiled("b(d|a)|a(d|c)");
        waysFrom(x, 0, 1, 2, -1, -1);
        waysFrom(x, 1, -1, -1, 3, 4);
        waysFrom(x, 2, 5, -1, -1, 6);
    }

    private static void aSetThatWasThere() {
        about("a set that was there is that STATE (but never 0)");
        statesOf("a*", 2);
        waysFrom(Check.compiled("a*"), 0, 1, -1, -1, -1);
        waysFrom(Check.compiled("a*"), 1, 1, -1, -1, -1);
        EmbedForge x = Check.compiled("(a|b)*");
        waysFrom(x, 0, 1, 2, -1, -1);
        waysFrom(x, 1, 1, 2, -1, -1);
        waysFrom(x, 2, 1, 2, -1, -1);
        EmbedForge y = Check.compiled("(abcd)+");
        waysFrom(y, 4, 1, -1, -1, -1);
        waysFrom(Check.compiled("[ab].*"), 2, 2, 2, 2, 2);
    }

    private static void atMost50States() {
        about("At most 50.");
        statesOf(Check.FIFTY_STATES, 50);
        EmbedForge x = Check.compiled(Check.FIFTY_STATES);
        waysFrom(x, 49, 18, 19, 19, 19);
        Check.due("the last one is final", 1, () -> x.state(49, 0));
        Check.due("the last one's positions", 2, () -> x.state(49, 3));
        EmbedForge y = Check.with(Check.FIFTY_ONE_STATES);
        Check.fails("51 states", Check.UNSUPPORTED, y::compile);
        EmbedForge z = Check.with(".*a" + ".".repeat(28));
        Check.fails("far more", Check.UNSUPPORTED, z::compile);
        statesOf(".".repeat(30), 31);
    }

    private static void finalIfOneIsLast() {
        about("A STATE is FINAL if one of its POSITIONS is LAST (STATE 0: if the EXPRESSION is EMPTY)");
        finals("a", 0, 1);
        finals("a*", 1, 1);
        finals("a?", 1, 1);
        finals("ab", 0, 0, 1);
        finals("ab|a", 0, 1, 1);
        finals("a?b?", 1, 1, 1);
        finals("(ab)*", 1, 0, 1);
    }

    private static void finals(String text, int... due) {
        EmbedForge x = Check.compiled(text);
        for (int s = 0; s < due.length; s++) {
            int each = s;
            Check.due("state(" + s + ", 0) of " + text, due[s], () -> x.state(each, 0));
        }
    }

    private static void endActionsTogether() {
        about("its END ACTIONS are those of all its LAST ones together (of STATE 0: NOTHING).");
        ends("a%1|a%2|ab%3", 0, 6, 8);
        ends("a%1b", 0, 0, 0);
        ends("(a%1)?%2", 4, 6);
        ends("a?%1|b?%2", 6, 2, 4);
        ends("(a%1b)*%9", 512, 0, 512);
    }

    private static void ends(String text, int... due) {
        EmbedForge x = Check.compiled(text);
        for (int s = 0; s < due.length; s++) {
            int each = s;
            Check.due("state(" + s + ", 1) of " + text, due[s], () -> x.state(each, 1));
        }
    }

    private static void classes(String text, int... due) {
        EmbedForge x = Check.compiled(text);
        Check.due("states of " + text, due.length, () -> x.count(1));
        int least = 0;
        for (int s = 0; s < due.length; s++) {
            int each = s;
            least += due[s] == s ? 1 : 0;
            Check.due("class of " + s + " in " + text, due[s], () -> x.state(each, 2));
        }
        Check.due("classes of " + text, least, () -> x.count(2));
    }

    private static void alikeOnlyIfEndsAreTheSame() {
        about("Two STATES are ALIKE if both are FINAL or both not, with the same END ACTIONS");
        classes("a|b", 0, 1, 1);
        classes("a%1|b%1", 0, 1, 1);
        classes("a%1|b%2", 0, 1, 2);
        classes("a%1|b", 0, 1, 2);
        classes("ac|bc?", 0, 1, 2, 3, 3);
        classes("a*", 0, 0);
        classes("a*%1", 0, 0);
        classes("(a%1)*", 0, 1);
    }

    private static void alikeOnlyIfWaysAreTheSame() {
        about("with each LETTER both have no way, or ways with the same ACTIONS to STATES that are ALIKE");
        classes("ac|bc", 0, 1, 1, 3, 3);
        classes("ac|b[cd]", 0, 1, 2, 3, 3);
        classes("ac>1|bc>1", 0, 1, 1, 3, 3);
        classes("ac>1|bc>2", 0, 1, 2, 3, 3);
        classes("ac|bd", 0, 1, 2, 3, 3);
        classes("acc|bcc%1", 0, 1, 2, 3, 4, 5, 6);
        classes("accc|bccc%1", 0, 1, 2, 3, 4, 5, 6, 7, 8);
        classes("a>1*", 0, 0);
        classes("a*>1", 0, 1);
    }

    private static void asManyAlikeAsPossible() {
        about("(as many as possible being ALIKE)");
        classes("(a|b)*", 0, 0, 0);
        classes("(a|b)+", 0, 1, 1);
        classes("a(bb)*|c(bb)*", 0, 1, 1, 3, 3, 1, 1);
        classes("(aa)*", 0, 1, 0);
        classes(".*..*", 0, 1, 1);
    }

    private static void classIsTheLeast() {
        about("The CLASS of a STATE is the least one that it is ALIKE.");
        classes("a|b|c|d", 0, 1, 1, 1, 1);
        classes("a%1|b|c%1|d", 0, 1, 2, 1, 2);
        classes("a".repeat(30), chain(31));
        EmbedForge x = Check.compiled(Check.FIFTY_STATES);
        Check.due("classes of 50 states", 49, () -> x.count(2));
    }

    private static int[] chain(int states) {
        int[] due = new int[states];
        for (int s = 0; s < states; s++) {
            due[s] = s;
        }
        return due;
    }
}
