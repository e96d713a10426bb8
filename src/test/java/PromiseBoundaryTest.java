/**
 * A test for each sentence of promises 1 to 12 that names a boundary case; the promise and the sentence that a
 * test stands for are told by Check.about, in the document's words.
 */
public final class PromiseBoundaryTest {
    private static final int LEAST = Integer.MIN_VALUE;
    private static final int MOST = Integer.MAX_VALUE;
    /** Four times this is 0, so that a place worked out of it before it is looked at would be a right one. */
    private static final int WRAPS = 1 << 30;
    private static final int[] NO_LETTERS = {-1, 4, 5, -4, 256, LEAST, MOST, WRAPS};

    private PromiseBoundaryTest() {
    }

    public static void main(String[] args) {
        newObjectHasNoText();
        newObjectHasNoMachine();
        textHighestFirst();
        textZerosLeftOut();
        textTellsHowMany();
        textRefusesOtherBytes();
        textRefusesMoreThan80();
        textRefusedChangesNothing();
        clearEmpties();
        compileTextStays();
        compileGoesToTheBeginning();
        compileTellsStates();
        compileOfNoExpression();
        compileOfTooManyStates();
        compileRefusedLeavesTheMachine();
        compileRefusedLeavesItWhereItIs();
        whereFirstWrongCharacter();
        whereTheThirtyFirstPosition();
        whereTooDeep();
        whereTheEndIsMissing();
        whereOfTheLatestCompile();
        whereThereWasNone();
        wayOfEachLetter();
        wayToOrNone();
        wayOfAnotherLetter();
        wayOfNoState();
        actionsBits();
        actionsOfNoWay();
        actionsThrownAsByWay();
        stateEachWhat();
        stateOfAnotherWhat();
        stateOfNoState();
        feedActionsAreDone();
        feedOfAnotherLetter();
        feedNothingCompiled();
        feedAtItsEnd();
        feedWithoutAWay();
        endActionsAreDone();
        endNothingCompiled();
        endAtItsEnd();
        endNotFinal();
        jumpFromAnywhere();
        jumpCountsNothing();
        jumpNothingCompiled();
        jumpToNoState();
        countEachWhat();
        countSinceCompileOrJump();
        countNothingCompiled();
        countOfOthers();
        Check.finish();
    }

    /** Four states, at state 3 with two letters fed and actions 1 and 2 done. */
    private static EmbedForge going() {
        EmbedForge x = Check.compiled("(a>1b$2)*%3c?%4>4");
        x.feed(0);
        x.feed(1);
        return x;
    }

    private static EmbedForge ended() {
        EmbedForge x = going();
        x.end();
        return x;
    }

    private static EmbedForge fifty() {
        return Check.compiled(Check.FIFTY_STATES);
    }

    // ---- promise 1

    private static void newObjectHasNoText() {
        Check.about("Promise 1", "An empty text");
        Check.due("count(0)", 0, () -> new EmbedForge().count(0));
        Check.due("clear()", 0, () -> new EmbedForge().clear());
        Check.due("text(0)", 0, () -> new EmbedForge().text(0));
        Check.due("text of one", 1, () -> new EmbedForge().text('a'));
        EmbedForge x = new EmbedForge();
        Check.fails("compile()", Check.ARGUMENT, x::compile);
        Check.due("where()", 0, x::where);
    }

    private static void newObjectHasNoMachine() {
        Check.about("Promise 1", "nothing is compiled.");
        EmbedForge x = new EmbedForge();
        Check.same("everything", "where -2 count" + " 0".repeat(17), Check.everything(x));
        Check.fails("way(0, 0)", Check.NONE, () -> x.way(0, 0));
        Check.fails("actions(0, 0)", Check.NONE, () -> x.actions(0, 0));
        Check.fails("state(0, 0)", Check.NONE, () -> x.state(0, 0));
        Check.fails("feed(0)", Check.STATE, () -> x.feed(0));
        Check.fails("end()", Check.STATE, x::end);
        Check.fails("jump(0)", Check.STATE, () -> x.jump(0));
    }

    // ---- promise 2

    private static void textHighestFirst() {
        Check.about("Promise 2", "The characters in the bytes of w, the highest first");
        EmbedForge x = new EmbedForge();
        Check.due("eight", 8, () -> x.text(Check.pack("a>1b@2c$")));
        Check.due("and one", 9, () -> x.text('3'));
        Check.due("compile()", 4, x::compile);
        Check.due("a", 2, () -> x.feed(0));
        Check.due("b", 4, () -> x.feed(1));
        Check.due("c", 8, () -> x.feed(2));
    }

    private static void textZerosLeftOut() {
        Check.about("Promise 2", "zeros left out");
        Check.due("no character", 0, () -> new EmbedForge().text(0));
        for (int shift = 0; shift < 64; shift += 8) {
            EmbedForge x = new EmbedForge();
            long w = (long) 'b' << shift;
            Check.due("a b at " + shift, 1, () -> x.text(w));
            Check.due("compile()", 2, x::compile);
            Check.due("way(0, 1)", 1, () -> x.way(0, 1));
        }
        EmbedForge x = new EmbedForge();
        Check.due("zeros between", 4, () -> x.text(0x6100_0062_0000_6364L));
        Check.due("zeros at both sides", 6, () -> x.text(0x0000_2A00_0025_0000L));
        Check.fails("a digit is missing", Check.ARGUMENT, x::compile);
        Check.due("where()", 6, x::where);
        Check.due("the digit", 7, () -> x.text((long) '9' << 56));
        Check.due("compile()", 5, x::compile);
        Check.due("abcd*%9 at the end", 512, () -> x.state(4, 1));
    }

    private static void textTellsHowMany() {
        Check.about("Promise 2", "come to the text: how many it has.");
        EmbedForge x = new EmbedForge();
        for (int had = 0; had < 80; had += 8) {
            int due = had + 8;
            Check.due("eight more than " + had, due, () -> x.text(Check.pack("a       ")));
        }
        Check.due("none more", 80, () -> x.text(0));
        Check.due("all of them", 11, x::compile);
    }

    private static void textRefusesOtherBytes() {
        Check.about("Promise 2", "IllegalArgumentException if another byte is not as said");
        for (int shift = 0; shift < 64; shift += 8) {
            long others = Check.pack("abcdabcd") & ~(255L << shift);
            for (int c : new int[] {1, 31, 127, 128, 160, 225, 255}) {
                long alone = (long) c << shift;
                EmbedForge x = Check.with("ab");
                Check.refused(c + " at " + shift, Check.ARGUMENT, x, y -> y.text(others | alone));
                Check.refused(c + " alone at " + shift, Check.ARGUMENT, x, y -> y.text(alone));
                Check.due("the text", 3, x::compile);
            }
            for (int c : new int[] {32, 126}) {
                long w = others | (long) c << shift;
                Check.due(c + " at " + shift, 8, () -> new EmbedForge().text(w));
            }
        }
        Check.fails("-1", Check.ARGUMENT, () -> new EmbedForge().text(-1));
        Check.fails("the least", Check.ARGUMENT, () -> new EmbedForge().text(Long.MIN_VALUE));
        Check.fails("the most", Check.ARGUMENT, () -> new EmbedForge().text(Long.MAX_VALUE));
    }

    private static void textRefusesMoreThan80() {
        Check.about("Promise 2", "IllegalStateException if there would be more than 80");
        String eight = "a".repeat(8);
        for (int had = 71; had <= 80; had++) {
            for (int more = 0; more <= 8; more++) {
                EmbedForge x = Check.with("a".repeat(had));
                long w = Check.pack(eight.substring(0, more));
                if (had + more > 80) {
                    Check.fails(had + " and " + more, Check.STATE, () -> x.text(w));
                    Check.due("how many then", had, () -> x.count(0));
                } else {
                    Check.due(had + " and " + more, had + more, () -> x.text(w));
                }
            }
        }
        EmbedForge full = Check.with("a".repeat(80));
        Check.due("zeros are none", 80, () -> full.text(0));
        EmbedForge nearly = Check.with("a".repeat(79));
        Check.due("zeros behind are none", 80, () -> nearly.text((long) 'a' << 56));
    }

    private static void textRefusedChangesNothing() {
        Check.about("Promise 2", "nothing changes then.");
        EmbedForge x = Check.with("(a|b" + " ".repeat(75));
        Check.refused("too many", Check.STATE, x, y -> y.text(Check.pack("))")));
        Check.refused("too many", Check.STATE, x, y -> y.text(Check.pack("))))))))")));
        Check.refused("a wrong one behind", Check.ARGUMENT, x, y -> y.text(')' << 8 | 31));
        Check.refused("a wrong one before", Check.ARGUMENT, x, y -> y.text(127 << 8 | ')'));
        Check.refused("too many and a wrong one", Check.ARGUMENT, x, y -> y.text(Check.pack(")))))))") << 8 | 1));
        Check.due("there is room for one", 80, () -> x.text(')'));
        Check.due("the text is (a|b and so on", 3, x::compile);
        EmbedForge full = ended();
        Check.write(full, "a".repeat(60));
        Check.refused("the machine stays", Check.STATE, full, y -> y.text(Check.pack("aaaa")));
    }

    // ---- promise 3

    private static void clearEmpties() {
        Check.about("Promise 3", "The text is empty: how many characters it had.");
        Check.due("none", 0, () -> new EmbedForge().clear());
        EmbedForge x = Check.with("a");
        Check.due("one", 1, x::clear);
        Check.due("none left", 0, x::clear);
        Check.due("none left", 0, () -> x.count(0));
        Check.write(x, "b".repeat(80));
        Check.due("80", 80, x::clear);
        Check.write(x, "c" + "?".repeat(79));
        Check.due("80 fit again", 80, () -> x.count(0));
        Check.due("of the new ones alone", 2, x::compile);
        Check.due("no b", -1, () -> x.way(0, 1));
        EmbedForge y = ended();
        String before = Check.everything(y);
        Check.due("how many", 17, y::clear);
        Check.same("the machine stays", before.replace("count 17", "count 0"), Check.everything(y));
        Check.fails("no text", Check.ARGUMENT, y::compile);
    }

    // ---- promise 4

    private static void compileTextStays() {
        Check.about("Promise 4", "THE MACHINE becomes that of the text, which stays");
        EmbedForge x = Check.with("ab");
        Check.due("compile()", 3, x::compile);
        Check.due("2 characters", 2, () -> x.count(0));
        Check.due("again", 3, x::compile);
        Check.due("more", 3, () -> x.text('c'));
        Check.due("the machine is not the text's yet", 3, () -> x.count(1));
        Check.due("abc", 4, x::compile);
        Check.fails("a wrong one more", Check.ARGUMENT, () -> x.text('|') * 0 + x.compile());
        Check.due("4 characters", 4, () -> x.count(0));
        Check.due("and a right one", 5, () -> x.text('d'));
        Check.due("abc|d", 5, x::compile);
        EmbedForge y = Check.with(Check.FIFTY_ONE_STATES);
        Check.fails("too many states", Check.UNSUPPORTED, y::compile);
        Check.due("its characters", Check.FIFTY_ONE_STATES.length(), () -> y.count(0));
    }

    private static void compileGoesToTheBeginning() {
        Check.about("Promise 4", "it is at STATE 0");
        for (EmbedForge x : new EmbedForge[] {going(), ended()}) {
            Check.due("at another", 3, () -> x.count(4));
            Check.due("compile()", 4, x::compile);
            Check.due("at 0", 0, () -> x.count(4));
            Check.due("not at its end", 0, () -> x.count(5));
            Check.due("nothing fed", 0, () -> x.count(6));
            Check.due("goes on from there", 2, () -> x.feed(0));
        }
    }

    private static void compileTellsStates() {
        Check.about("Promise 4", "how many STATES.");
        Check.due("the fewest", 2, () -> Check.with("a").compile());
        Check.due("the fewest", 2, () -> Check.with("a?").compile());
        Check.due("49", 49, () -> Check.with("a".repeat(16) + ".*a....").compile());
        Check.due("the most", 50, () -> Check.with(Check.FIFTY_STATES).compile());
    }

    private static void compileOfNoExpression() {
        Check.about("Promise 4", "IllegalArgumentException if the text is no EXPRESSION");
        String[] wrong = {"", " ", "|", "a|", "()", "(a", "a)", "[]", "[a", "[a b]", "*", "a>", "a> 1", "a>a", "e",
            "A", "a1", "~", "(((((((((a)))))))))", "a".repeat(31), "a".repeat(80)};
        for (String text : wrong) {
            EmbedForge x = Check.with(text);
            Check.fails("'" + text + "'", Check.ARGUMENT, x::compile);
            Check.fails("'" + text + "' again", Check.ARGUMENT, x::compile);
        }
        Check.fails("too many positions, too many states too", Check.ARGUMENT,
                () -> Check.with(".*a" + ".".repeat(29)).compile());
    }

    private static void compileOfTooManyStates() {
        Check.about("Promise 4", "UnsupportedOperationException if there would be more than 50 STATES");
        Check.fails("51", Check.UNSUPPORTED, () -> Check.with(Check.FIFTY_ONE_STATES).compile());
        Check.fails("66", Check.UNSUPPORTED, () -> Check.with(".*a.....").compile());
        Check.fails("far more", Check.UNSUPPORTED, () -> Check.with(".*a" + ".".repeat(28)).compile());
        EmbedForge x = Check.with(Check.FIFTY_ONE_STATES);
        Check.fails("51", Check.UNSUPPORTED, x::compile);
        Check.fails("51 again", Check.UNSUPPORTED, x::compile);
        Check.due("then 50", 50, () -> Check.compileOf(x, Check.FIFTY_STATES));
    }

    private static void compileRefusedLeavesTheMachine() {
        Check.about("Promise 4", "THE MACHINE that was there stays then");
        EmbedForge x = new EmbedForge();
        Check.fails("no expression", Check.ARGUMENT, x::compile);
        Check.due("there was none", 0, () -> x.count(1));
        Check.fails("there was none", Check.STATE, () -> x.feed(0));
        EmbedForge y = Check.with(Check.FIFTY_ONE_STATES);
        Check.fails("too many states", Check.UNSUPPORTED, y::compile);
        Check.same("there was none", "where -2 count " + Check.FIFTY_ONE_STATES.length() + " 0".repeat(16),
                Check.everything(y));
        Check.fails("there was none", Check.NONE, () -> y.state(0, 0));
        Check.fails("there was none", Check.STATE, y::end);
        Check.fails("there was none", Check.STATE, () -> y.jump(0));
    }

    private static void compileRefusedLeavesItWhereItIs() {
        Check.about("Promise 4", "where it is.");
        for (boolean atEnd : new boolean[] {false, true}) {
            EmbedForge x = atEnd ? ended() : going();
            String before = Check.everything(x);
            Check.write(x, "|");
            Check.fails("no expression", Check.ARGUMENT, x::compile);
            Check.same("all but the text", before.replace("where -2 count 17", "where 18 count 18"),
                    Check.everything(x));
            EmbedForge y = atEnd ? ended() : going();
            Check.fails("too many states", Check.UNSUPPORTED, () -> Check.compileOf(y, ".*a....."));
            Check.same("all but the text", before.replace("count 17", "count 8"), Check.everything(y));
        }
        EmbedForge z = going();
        Check.fails("no expression", Check.ARGUMENT, () -> Check.compileOf(z, "a".repeat(31)));
        Check.due("it goes on: c", 8 | 16, () -> z.feed(2));
        Check.due("it goes on: end", 16, z::end);
    }

    // ---- promise 5

    private static void whereFirstWrongCharacter() {
        Check.about("Promise 5", "The place (0 the first) of the first character with which none goes on so");
        Check.faultAt("e", 0);
        Check.faultAt(")", 0);
        Check.faultAt("]", 0);
        Check.faultAt("ae", 1);
        Check.faultAt("a  e", 3);
        Check.faultAt("a))", 1);
        Check.faultAt("[ae", 2);
        Check.faultAt("a>a>", 2);
        Check.faultAt("a|)(", 2);
        Check.faultAt("(a|b)*?>1)", 9);
        Check.faultAt("a" + "*".repeat(78) + "~", 79);
        Check.faultAt("~" + "a".repeat(79), 0);
        Check.faultAt("  (a b | c >1 > 2)", 15);
    }

    private static void whereTheThirtyFirstPosition() {
        Check.about("Promise 5", "(the 31st POSITION, and a ( too deep, is one)");
        String thirty = "a".repeat(30);
        Check.faultAt(thirty + "a", 30);
        Check.faultAt(thirty + ".", 30);
        Check.faultAt(thirty + "[", 30);
        Check.faultAt(thirty + "[abcd]", 30);
        Check.faultAt(thirty + "  d", 32);
        Check.faultAt(thirty + "|b", 31);
        Check.faultAt(thirty + "*%1>2(b)", 36);
        Check.faultAt("(".repeat(8) + thirty + "b", 38);
        Check.faultAt("(a)".repeat(15) + "a".repeat(16), 60);
        Check.faultAt(thirty + "e", 30);
        Check.faultAt(thirty + ")", 30);
    }

    private static void whereTooDeep() {
        Check.about("Promise 5", "(the 31st POSITION, and a ( too deep, is one)");
        Check.faultAt("(((((((((", 8);
        Check.faultAt("(((((((((a)))))))))", 8);
        Check.faultAt("a ( ( ( ( ( ( ( ( (", 18);
        Check.faultAt("((((((((a(", 9);
        Check.faultAt("((((((((a|(", 10);
        Check.faultAt("(a)((((((((b)((c", 14);
        Check.faultAt("(".repeat(8) + "a".repeat(30) + "(", 38);
        Check.faultAt("((((((((", 8);
    }

    private static void whereTheEndIsMissing() {
        Check.about("Promise 5", "or how many there are, if the end is missing");
        Check.faultAt("", 0);
        Check.faultAt("   ", 3);
        Check.faultAt("(", 1);
        Check.faultAt("(a", 2);
        Check.faultAt("(a ", 3);
        Check.faultAt("a|", 2);
        Check.faultAt("a| ", 3);
        Check.faultAt("[", 1);
        Check.faultAt("[abc", 4);
        Check.faultAt("[ab]".repeat(19) + "[ab", 79);
        Check.faultAt("a>", 2);
        Check.faultAt("a%1@", 4);
        Check.faultAt("a" + "+".repeat(78) + "|", 80);
        Check.faultAt("(" + "a" + "+".repeat(78), 80);
        Check.faultAt(" ".repeat(80), 80);
    }

    private static void whereOfTheLatestCompile() {
        Check.about("Promise 5", "in the latest compile that found no EXPRESSION; -2 if the latest did");
        EmbedForge x = Check.with("ab)");
        Check.fails("compile()", Check.ARGUMENT, x::compile);
        Check.due("where()", 2, x::where);
        x.clear();
        Check.due("clear() is no compile", 2, x::where);
        x.text('a');
        Check.due("text() is no compile", 2, x::where);
        Check.due("compile()", 2, x::compile);
        Check.due("it found one", -2, x::where);
        Check.fails("compile()", Check.ARGUMENT, () -> x.text('|') * 0 + x.compile());
        Check.due("the later one", 2, x::where);
        x.feed(0);
        x.end();
        x.jump(0);
        Check.due("none of these is a compile", 2, x::where);
        Check.fails("compile()", Check.ARGUMENT, () -> Check.compileOf(x, "(a"));
        Check.fails("compile()", Check.ARGUMENT, () -> Check.compileOf(x, "e"));
        Check.due("the latest of them", 0, x::where);
        Check.fails("too many states", Check.UNSUPPORTED, () -> Check.compileOf(x, Check.FIFTY_ONE_STATES));
        Check.due("but an expression", -2, x::where);
    }

    private static void whereThereWasNone() {
        Check.about("Promise 5", "or there was none.");
        Check.due("a new object", -2, () -> new EmbedForge().where());
        Check.due("with a text", -2, () -> Check.with("((").where());
    }

    // ---- promise 6

    private static void wayOfEachLetter() {
        Check.about("Promise 6", "The STATE to which a LETTER (0 to 3) leads from STATE s");
        EmbedForge x = Check.compiled("(d|c|b|a)+");
        for (int s = 0; s < 5; s++) {
            for (int letter = 0; letter < 4; letter++) {
                int from = s;
                int each = letter;
                Check.due("way(" + s + ", " + letter + ")", letter + 1, () -> x.way(from, each));
            }
        }
    }

    private static void wayToOrNone() {
        Check.about("Promise 6", "-1 if there is no way.");
        EmbedForge x = Check.compiled("[ad]");
        int[] due = {1, -1, -1, 1};
        for (int letter = 0; letter < 4; letter++) {
            int each = letter;
            Check.due("way(0, " + letter + ")", due[letter], () -> x.way(0, each));
            Check.due("way(1, " + letter + ")", -1, () -> x.way(1, each));
        }
        Check.due("the last state of 50", 19, () -> fifty().way(49, 3));
    }

    private static void wayOfAnotherLetter() {
        Check.about("Promise 6", "IllegalArgumentException for another LETTER");
        EmbedForge x = ended();
        for (int letter : NO_LETTERS) {
            Check.fails("way(0, " + letter + ")", Check.ARGUMENT, () -> x.way(0, letter));
            Check.fails("way(3, " + letter + ")", Check.ARGUMENT, () -> x.way(3, letter));
            Check.fails("way(4, " + letter + ")", Check.ARGUMENT, () -> x.way(4, letter));
            Check.fails("nothing compiled", Check.ARGUMENT, () -> new EmbedForge().way(0, letter));
        }
        Check.refused("nothing changes", Check.ARGUMENT, x, y -> y.way(0, 4));
    }

    /** The states that a machine of so many has not. */
    private static int[] noStates(int states) {
        return new int[] {-1, states, states + 1, 50, 51, -states, LEAST, MOST, WRAPS, -WRAPS};
    }

    private static void wayOfNoState() {
        Check.about("Promise 6", "NoSuchElementException if there is no STATE s.");
        EmbedForge x = going();
        for (int s : noStates(4)) {
            Check.fails("way(" + s + ", 0)", Check.NONE, () -> x.way(s, 0));
            Check.fails("way(" + s + ", 3)", Check.NONE, () -> x.way(s, 3));
        }
        Check.refused("nothing changes", Check.NONE, x, y -> y.way(4, 0));
        Check.fails("50 of 50", Check.NONE, () -> fifty().way(50, 0));
        Check.fails("nothing compiled", Check.NONE, () -> new EmbedForge().way(0, 0));
        EmbedForge fewer = fifty();
        Check.due("then fewer", 2, () -> Check.compileOf(fewer, "a"));
        Check.fails("then fewer", Check.NONE, () -> fewer.way(2, 0));
    }

    // ---- promise 7

    private static void actionsBits() {
        Check.about("Promise 7", "The ACTIONS of that way, bit n for n");
        Check.due("none", 0, () -> Check.compiled("a").actions(0, 0));
        Check.due("the first", 1, () -> Check.compiled("a>0").actions(0, 0));
        Check.due("the last", 512, () -> Check.compiled("d>9").actions(0, 3));
        Check.due("all", 1023, () -> Check.compiled("a>0>1>2>3>4>5>6>7>8>9").actions(0, 0));
    }

    private static void actionsOfNoWay() {
        Check.about("Promise 7", "0 if there is none.");
        EmbedForge x = Check.compiled("a>1b>2%3");
        Check.due("actions(0, 1)", 0, () -> x.actions(0, 1));
        Check.due("actions(1, 0)", 0, () -> x.actions(1, 0));
        Check.due("actions(2, 3)", 0, () -> x.actions(2, 3));
    }

    private static void actionsThrownAsByWay() {
        Check.about("Promise 7", "Thrown as by way.");
        EmbedForge x = going();
        for (int letter : NO_LETTERS) {
            Check.fails("actions(0, " + letter + ")", Check.ARGUMENT, () -> x.actions(0, letter));
            Check.fails("actions(4, " + letter + ")", Check.ARGUMENT, () -> x.actions(4, letter));
            Check.fails("nothing compiled", Check.ARGUMENT, () -> new EmbedForge().actions(0, letter));
        }
        for (int s : noStates(4)) {
            Check.fails("actions(" + s + ", 0)", Check.NONE, () -> x.actions(s, 0));
            Check.fails("actions(" + s + ", 3)", Check.NONE, () -> x.actions(s, 3));
        }
        Check.refused("nothing changes", Check.NONE, x, y -> y.actions(4, 0));
        Check.fails("nothing compiled", Check.NONE, () -> new EmbedForge().actions(0, 3));
        Check.fails("50 of 50", Check.NONE, () -> fifty().actions(50, 0));
        Check.due("49 of 50", 0, () -> fifty().actions(49, 3));
    }

    // ---- promise 8

    private static void stateEachWhat() {
        Check.about("Promise 8", "what 0: 1 if FINAL, else 0, 1: its END ACTIONS, 2: its CLASS, 3: how many POSITIONS.");
        EmbedForge x = Check.compiled("a%0%9|a|b");
        int[][] due = {{0, 0, 0, 0}, {1, 513, 1, 2}, {1, 0, 2, 1}};
        for (int s = 0; s < 3; s++) {
            for (int what = 0; what < 4; what++) {
                int state = s;
                int each = what;
                Check.due("state(" + s + ", " + what + ")", due[s][what], () -> x.state(state, each));
            }
        }
        Check.due("30 positions", 30, () -> Check.compiled("a|".repeat(29) + "a").state(1, 3));
        EmbedForge y = Check.compiled("a*");
        Check.due("class 0 of another", 0, () -> y.state(1, 2));
        Check.due("the last of 50", 49, () -> fifty().state(49, 2));
    }

    private static void stateOfAnotherWhat() {
        Check.about("Promise 8", "IllegalArgumentException for another what");
        EmbedForge x = ended();
        for (int what : NO_LETTERS) {
            Check.fails("state(0, " + what + ")", Check.ARGUMENT, () -> x.state(0, what));
            Check.fails("state(4, " + what + ")", Check.ARGUMENT, () -> x.state(4, what));
            Check.fails("nothing compiled", Check.ARGUMENT, () -> new EmbedForge().state(0, what));
        }
        Check.refused("nothing changes", Check.ARGUMENT, x, y -> y.state(0, 4));
    }

    private static void stateOfNoState() {
        Check.about("Promise 8", "NoSuchElementException if there is no STATE s.");
        EmbedForge x = going();
        for (int s : noStates(4)) {
            for (int what = 0; what < 4; what++) {
                int each = what;
                Check.fails("state(" + s + ", " + what + ")", Check.NONE, () -> x.state(s, each));
            }
        }
        Check.refused("nothing changes", Check.NONE, x, y -> y.state(4, 0));
        Check.fails("50 of 50", Check.NONE, () -> fifty().state(50, 3));
        for (int what = 0; what < 4; what++) {
            int each = what;
            Check.fails("nothing compiled", Check.NONE, () -> new EmbedForge().state(0, each));
        }
    }

    // ---- promise 9

    private static void feedActionsAreDone() {
        Check.about("Promise 9", "THE MACHINE goes on with a LETTER: the ACTIONS, which are DONE.");
        EmbedForge x = Check.compiled("a>0>9(b|c|d)*");
        int[] due = {513, 0, 0, 0};
        for (int letter = 0; letter < 4; letter++) {
            int each = letter;
            Check.due("feed(" + letter + ")", due[letter], () -> x.feed(each));
            Check.due("at", letter + 1, () -> x.count(4));
            Check.due("fed", letter + 1, () -> x.count(6));
        }
        Check.due("0 was done", 1, () -> x.count(10));
        Check.due("9 was done", 1, () -> x.count(19));
        Check.due("1 was not", 0, () -> x.count(11));
    }

    private static void feedOfAnotherLetter() {
        Check.about("Promise 9", "IllegalArgumentException for another LETTER");
        for (int letter : NO_LETTERS) {
            Check.refused("feed(" + letter + ")", Check.ARGUMENT, going(), x -> x.feed(letter));
            Check.refused("feed(" + letter + ") at its end", Check.ARGUMENT, ended(), x -> x.feed(letter));
            Check.refused("feed(" + letter + "), nothing compiled", Check.ARGUMENT, new EmbedForge(),
                    x -> x.feed(letter));
        }
    }

    private static void feedNothingCompiled() {
        Check.about("Promise 9", "IllegalStateException if nothing is compiled");
        for (int letter = 0; letter < 4; letter++) {
            int each = letter;
            Check.refused("a new object", Check.STATE, new EmbedForge(), x -> x.feed(each));
            Check.refused("a text alone", Check.STATE, Check.with("...."), x -> x.feed(each));
        }
    }

    private static void feedAtItsEnd() {
        Check.about("Promise 9", "or THE MACHINE is at its END");
        EmbedForge x = ended();
        Check.refused("with a way", Check.STATE, x, y -> y.feed(0));
        Check.refused("without a way", Check.STATE, x, y -> y.feed(3));
        EmbedForge y = Check.compiled("a*");
        Check.due("at once", 0, y::end);
        Check.refused("at the beginning", Check.STATE, y, z -> z.feed(0));
        Check.due("jump(0)", 0, () -> y.jump(0));
        Check.due("it goes on then", 0, () -> y.feed(0));
    }

    private static void feedWithoutAWay() {
        Check.about("Promise 9", "UnsupportedOperationException if there is no way (it stays).");
        Check.refused("from another", Check.UNSUPPORTED, going(), x -> x.feed(1));
        Check.refused("from the beginning", Check.UNSUPPORTED, Check.compiled("a"), x -> x.feed(1));
        EmbedForge x = Check.compiled("a>1b>2");
        Check.due("a", 2, () -> x.feed(0));
        Check.refused("no way", Check.UNSUPPORTED, x, y -> y.feed(0));
        Check.due("it goes on: b", 4, () -> x.feed(1));
        for (int letter = 0; letter < 4; letter++) {
            int each = letter;
            Check.fails("no way at all", Check.UNSUPPORTED, () -> x.feed(each));
        }
        Check.due("it ends", 0, x::end);
    }

    // ---- promise 10

    private static void endActionsAreDone() {
        Check.about("Promise 10", "is at its END: the END ACTIONS, which are DONE.");
        EmbedForge x = Check.compiled("(a$0)*%0%9");
        Check.due("at the beginning", 513, x::end);
        Check.due("done", 1, () -> x.count(10));
        Check.due("done", 1, () -> x.count(19));
        Check.due("at its end", 1, () -> x.count(5));
        Check.due("at 0", 0, () -> x.count(4));
        Check.due("no letter", 0, () -> x.count(6));
        x.jump(0);
        x.feed(0);
        Check.due("behind a", 513, x::end);
        Check.due("done with the letter's", 2, () -> x.count(10));
        Check.due("the state is the same", 1, () -> x.count(4));
        Check.due("without actions", 0, () -> Check.compiled("a?").end());
    }

    private static void endNothingCompiled() {
        Check.about("Promise 10", "IllegalStateException if nothing is compiled");
        Check.refused("a new object", Check.STATE, new EmbedForge(), EmbedForge::end);
        Check.refused("a text alone", Check.STATE, Check.with("a?"), EmbedForge::end);
    }

    private static void endAtItsEnd() {
        Check.about("Promise 10", "or it is at its END");
        EmbedForge x = ended();
        Check.refused("once more", Check.STATE, x, EmbedForge::end);
        Check.refused("and once more", Check.STATE, x, EmbedForge::end);
        Check.due("jump(3)", 3, () -> x.jump(3));
        Check.due("it ends again then", 8 | 16, x::end);
    }

    private static void endNotFinal() {
        Check.about("Promise 10", "UnsupportedOperationException if the STATE is not FINAL.");
        Check.refused("at the beginning", Check.UNSUPPORTED, Check.compiled("a"), EmbedForge::end);
        EmbedForge x = Check.compiled("a%1b%2");
        x.feed(0);
        Check.refused("behind a", Check.UNSUPPORTED, x, EmbedForge::end);
        Check.due("it goes on", 2, () -> x.feed(1));
        Check.due("and ends", 4, x::end);
    }

    // ---- promise 11

    private static void jumpFromAnywhere() {
        Check.about("Promise 11", "THE MACHINE is at STATE s, not at its END");
        EmbedForge x = ended();
        Check.due("from its end", 3, () -> x.jump(1));
        Check.due("not at its end", 0, () -> x.count(5));
        Check.due("at 1", 1, () -> x.count(4));
        Check.due("to the last", 1, () -> x.jump(3));
        Check.due("from there to the first", 3, () -> x.jump(0));
        Check.due("at the first", 0, () -> x.count(4));
        Check.due("it goes on", 2, () -> x.feed(0));
        EmbedForge y = fifty();
        Check.due("to the last of 50", 0, () -> y.jump(49));
        Check.due("it ends there", 0, y::end);
        Check.due("from there", 49, () -> y.jump(0));
    }

    private static void jumpCountsNothing() {
        Check.about("Promise 11", "nothing DONE is counted: the STATE it was at.");
        EmbedForge x = ended();
        Check.due("jump to where it is", 3, () -> x.jump(3));
        Check.due("nothing fed", 0, () -> x.count(6));
        for (int n = 0; n < 10; n++) {
            int each = n;
            Check.due("action " + n, 0, () -> x.count(10 + each));
        }
    }

    private static void jumpNothingCompiled() {
        Check.about("Promise 11", "IllegalStateException if nothing is compiled");
        for (int s : new int[] {0, 1, -1, 50, LEAST, MOST}) {
            Check.refused("jump(" + s + ")", Check.STATE, new EmbedForge(), x -> x.jump(s));
            Check.refused("jump(" + s + "), a text alone", Check.STATE, Check.with("ab"), x -> x.jump(s));
        }
    }

    private static void jumpToNoState() {
        Check.about("Promise 11", "NoSuchElementException if there is no STATE s.");
        for (int s : noStates(4)) {
            Check.refused("jump(" + s + ")", Check.NONE, going(), x -> x.jump(s));
            Check.refused("jump(" + s + ") at its end", Check.NONE, ended(), x -> x.jump(s));
        }
        Check.fails("50 of 50", Check.NONE, () -> fifty().jump(50));
    }

    // ---- promise 12

    private static void countEachWhat() {
        Check.about("Promise 12", "What 0: characters of the text, 1: STATES, 2: CLASSES, 3: POSITIONS, 4: the STATE"
                + " THE MACHINE is at, 5: 1 if at its END else 0, 6: LETTERS fed since compile or jump");
        counts(Check.compiled("a"), 1, 2, 2, 1, 0, 0, 0);
        counts(going(), 17, 4, 3, 3, 3, 0, 2);
        counts(ended(), 17, 4, 3, 3, 3, 1, 2);
        EmbedForge x = Check.compiled("a|".repeat(29) + "a" + " ".repeat(21));
        counts(x, 80, 2, 2, 30, 0, 0, 0);
        EmbedForge y = fifty();
        y.jump(49);
        counts(y, Check.FIFTY_STATES.length(), 50, 49, 23, 49, 0, 0);
        x.clear();
        counts(x, 0, 2, 2, 30, 0, 0, 0);
    }

    private static void counts(EmbedForge x, int... due) {
        for (int what = 0; what < due.length; what++) {
            int each = what;
            Check.due("count(" + what + ")", due[what], () -> x.count(each));
        }
    }

    private static void countSinceCompileOrJump() {
        Check.about("Promise 12", "10 + n: how often ACTION n was DONE since then.");
        for (int n = 0; n < 10; n++) {
            EmbedForge x = Check.compiled("(a$" + n + ")*%" + n);
            x.feed(0);
            x.feed(0);
            doneAlone(x, n, 2);
            x.end();
            doneAlone(x, n, 3);
            x.jump(1);
            doneAlone(x, n, 0);
            x.feed(0);
            doneAlone(x, n, 1);
            x.compile();
            doneAlone(x, n, 0);
        }
    }

    private static void doneAlone(EmbedForge x, int action, int due) {
        for (int n = 0; n < 10; n++) {
            int each = n;
            Check.due("count(10 + " + n + ")", n == action ? due : 0, () -> x.count(10 + each));
        }
    }

    private static void countNothingCompiled() {
        Check.about("Promise 12", "0 for 1 to 19 if nothing is compiled.");
        EmbedForge x = Check.with("ab");
        Check.due("but characters", 2, () -> x.count(0));
        Check.same("the others", "where -2 count 2" + " 0".repeat(16), Check.everything(x));
    }

    /** 7 to 9 name nothing, so they are others with nothing compiled too. */
    private static void countOfOthers() {
        Check.about("Promise 12", "IllegalArgumentException for others.");
        for (int what : new int[] {-1, 7, 8, 9, 20, 21, -10, 100, LEAST, LEAST + 10, MOST, MOST - 9}) {
            Check.fails("count(" + what + ")", Check.ARGUMENT, () -> going().count(what));
            Check.fails("count(" + what + ") at its end", Check.ARGUMENT, () -> ended().count(what));
            Check.fails("count(" + what + "), nothing compiled", Check.ARGUMENT,
                    () -> new EmbedForge().count(what));
        }
        Check.refused("nothing changes", Check.ARGUMENT, ended(), x -> x.count(20));
    }
}
