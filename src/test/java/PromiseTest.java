/** One method for each promise: ordinary inputs, the edges that the document names, and wrong inputs. */
public final class PromiseTest {
    private PromiseTest() {
    }

    public static void main(String[] args) {
        newObject();
        text();
        clear();
        compile();
        compileThatFails();
        firstLastAndSteps();
        actionSigns();
        where();
        limitsOfExpressions();
        way();
        actions();
        state();
        classes();
        feed();
        end();
        jump();
        count();
        nothingLeftBehind();
        manyCalls();
        Check.finish();
    }

    private static void newObject() {
        EmbedForge x = new EmbedForge();
        Check.due("1: clear()", 0, x::clear);
        Check.due("1: where()", -2, x::where);
        for (int what = 0; what < 20; what++) {
            int each = what;
            if (what < 7 || what > 9) {
                Check.due("1: count(" + what + ")", 0, () -> x.count(each));
            }
        }
        Check.fails("1: way(0, 0)", Check.NONE, () -> x.way(0, 0));
        Check.fails("1: actions(0, 0)", Check.NONE, () -> x.actions(0, 0));
        Check.fails("1: state(0, 0)", Check.NONE, () -> x.state(0, 0));
        Check.fails("1: feed(0)", Check.STATE, () -> x.feed(0));
        Check.fails("1: end()", Check.STATE, x::end);
        Check.fails("1: jump(0)", Check.STATE, () -> x.jump(0));
        Check.fails("1: jump(-1)", Check.STATE, () -> x.jump(-1));
        EmbedForge other = Check.compiled("a");
        Check.due("1: objects are apart", 0, () -> x.count(1));
        Check.due("1: objects are apart", 2, () -> other.count(1));
    }

    private static void text() {
        EmbedForge x = new EmbedForge();
        Check.due("2: no character", 0, () -> x.text(0));
        Check.due("2: one", 1, () -> x.text('a'));
        Check.due("2: zeros left out", 3, () -> x.text(0x6200_0000_0000_6300L));
        Check.due("2: abc, the highest first", 4, x::compile);
        Check.due("2: a first", 1, () -> x.way(0, 0));
        Check.due("2: then b", 2, () -> x.way(1, 1));
        Check.due("2: then c", 3, () -> x.way(2, 2));
        for (int c : new int[] {1, 9, 31, 127, 128, 255}) {
            Check.fails("2: byte " + c, Check.ARGUMENT, () -> x.text(c));
            Check.fails("2: highest byte " + c, Check.ARGUMENT, () -> x.text((long) c << 56 | 'a'));
            Check.fails("2: lower byte " + c, Check.ARGUMENT, () -> x.text((long) 'a' << 56 | c));
        }
        Check.fails("2: -1", Check.ARGUMENT, () -> x.text(-1));
        Check.due("2: nothing changed", 3, () -> x.count(0));
        Check.due("2: 32 and 126", 5, () -> x.text(32 << 8 | 126));
        fullText();
    }

    private static void fullText() {
        EmbedForge x = Check.with("a ".repeat(38));
        Check.fails("2: 81", Check.STATE, () -> x.text(Check.pack("     ")));
        Check.due("2: nothing changed", 76, () -> x.count(0));
        Check.fails("2: a wrong byte before too many", Check.ARGUMENT, () -> x.text(Check.pack("        ") | 128));
        Check.due("2: 80", 80, () -> x.text(Check.pack("    ")));
        Check.due("2: none more", 80, () -> x.text(0));
        Check.fails("2: one more", Check.STATE, () -> x.text('a'));
        Check.due("2: still 80", 80, () -> x.count(0));
    }

    private static void clear() {
        EmbedForge x = Check.compiled("ab");
        Check.due("3: feed", 0, () -> x.feed(0));
        Check.due("3: clear()", 2, x::clear);
        Check.due("3: once more", 0, x::clear);
        Check.due("3: no characters", 0, () -> x.count(0));
        Check.due("3: the machine stays", 3, () -> x.count(1));
        Check.due("3: where it is", 1, () -> x.count(4));
        Check.due("3: a new text", 1, () -> x.text('c'));
        Check.due("3: which is all", 2, x::compile);
        Check.fails("3: as another", Check.ARGUMENT, () -> Check.compileOf(x, ")"));
        Check.due("3: clear()", 1, x::clear);
        Check.due("3: where() is of the latest compile", 0, x::where);
    }

    private static void compile() {
        EmbedForge x = Check.with("ab|ac");
        Check.due("4: states", 4, x::compile);
        Check.due("4: the text stays", 5, () -> x.count(0));
        Check.due("4: both a at once", 2, () -> x.state(1, 3));
        Check.due("4: b is found before c", 2, () -> x.way(1, 1));
        Check.due("4: c", 3, () -> x.way(1, 2));
        x.feed(0);
        Check.due("4: at 0 again", 4, x::compile);
        Check.due("4: at 0 again", 0, () -> x.count(4));
        Check.due("4: nothing fed", 0, () -> x.count(6));
        EmbedForge y = new EmbedForge();
        Check.due("4: states are found from each in order", 7, () -> Check.compileOf(y, "ba|ab|cd"));
        Check.due("4: a", 1, () -> y.way(0, 0));
        Check.due("4: b", 2, () -> y.way(0, 1));
        Check.due("4: c", 3, () -> y.way(0, 2));
        Check.due("4: behind a", 4, () -> y.way(1, 1));
        Check.due("4: behind b", 5, () -> y.way(2, 0));
        Check.due("4: a set that was there", 2, () -> Check.compileOf(y, "a+"));
        Check.due("4: is that state", 1, () -> y.way(1, 0));
        Check.due("4: the beginning is never come back to", 2, () -> Check.compileOf(y, "a*"));
        Check.due("4: but left", 1, () -> y.way(0, 0));
        Check.due("4: a group of letters, one again", 2, () -> Check.compileOf(y, "[dbd]"));
        Check.due("4: no a", -1, () -> y.way(0, 0));
        Check.due("4: b", 1, () -> y.way(0, 1));
        Check.due("4: d", 1, () -> y.way(0, 3));
        Check.due("4: blanks", 4, () -> Check.compileOf(y, "  ( a  >1 * | [bc] ) + ? %2 .   "));
        Check.due("4: 50 states", 50, () -> Check.compileOf(y, Check.FIFTY_STATES));
    }

    private static void compileThatFails() {
        EmbedForge x = Check.compiled("a>1b*");
        x.feed(0);
        Check.fails("4: no expression", Check.ARGUMENT, () -> Check.compileOf(x, "ab|"));
        stays(x);
        Check.fails("4: 51 states", Check.UNSUPPORTED, () -> Check.compileOf(x, Check.FIFTY_ONE_STATES));
        Check.due("4: the text stays", Check.FIFTY_ONE_STATES.length(), () -> x.count(0));
        stays(x);
        Check.fails("4: an empty text", Check.ARGUMENT, () -> Check.compileOf(x, ""));
        Check.fails("4: blanks alone", Check.ARGUMENT, () -> Check.compileOf(x, "   "));
        stays(x);
        x.end();
        Check.fails("4: no expression", Check.ARGUMENT, () -> Check.compileOf(x, ")"));
        Check.due("4: still at its end", 1, () -> x.count(5));
        Check.due("4: compiled, it is not", 3, () -> Check.compileOf(x, "a>1b*"));
        Check.due("4: at its end", 0, () -> x.count(5));
        Check.due("4: nothing done", 0, () -> x.count(11));
    }

    private static void stays(EmbedForge x) {
        Check.due("4: states stay", 3, () -> x.count(1));
        Check.due("4: positions stay", 2, () -> x.count(3));
        Check.due("4: where it is", 1, () -> x.count(4));
        Check.due("4: fed", 1, () -> x.count(6));
        Check.due("4: done", 1, () -> x.count(11));
        Check.due("4: ways stay", 2, () -> x.way(1, 1));
    }

    private static void refuses(String text, String letters) {
        EmbedForge x = Check.compiled(text);
        int last = letters.length() - 1;
        for (int i = 0; i < last; i++) {
            x.feed(letters.charAt(i) - 'a');
        }
        Check.fails("4: " + text + " with " + letters, Check.UNSUPPORTED, () -> x.feed(letters.charAt(last) - 'a'));
    }

    private static void firstLastAndSteps() {
        Check.walk("a|b*", "", 0);
        Check.walk("a|b", "", -1);
        Check.walk("a?%1|b*%2|c", "", 6);
        Check.walk("a?%1b", "b", 2, 0);
        Check.walk("ab?%1", "a", 0, 2);
        Check.walk("a%1b>2", "ab", 0, 6, 0);
        Check.walk("a?%1b?%2", "", 6);
        Check.walk("a?%1b", "", -1);
        Check.walk("(a?%1b)?", "", 0);
        Check.walk("(a?%1b)*", "bb", 2, 2, 0);
        Check.walk("a%1(b?%2)c>3", "ac", 0, 2 | 4 | 8, 0);
        Check.walk("(a>1)*", "aa", 2, 2, 0);
        Check.walk("(a%1)+", "aa", 0, 2, 2);
        Check.walk("a+", "", -1);
        Check.walk("(a?%1)+", "", 2);
        Check.walk("(a?%1)*", "", 2);
        Check.walk("(a?%1)?", "", 2);
        Check.walk("(a%1)?", "", 0);
        Check.walk("(a%1)*", "", 0);
        Check.walk("(a>1|a>2)", "a", 6, 0);
        Check.walk("((a%1)+>2)+", "aa", 4, 6, 2);
        refuses("a?", "aa");
        refuses("ab", "b");
        refuses("a|b", "ab");
        refuses("ab", "aa");
    }

    private static void actionSigns() {
        Check.walk("(ab)>1", "ab", 2, 0, 0);
        Check.walk("(ab)%1", "ab", 0, 0, 2);
        Check.walk("(ab)$1", "ab", 2, 2, 0);
        Check.walk("(ab)@1", "ab", 0, 2, 0);
        Check.walk("(ab?)@1", "ab", 2, 2, 0);
        Check.walk("(ab*)@1", "abb", 2, 2, 2, 0);
        Check.walk("a*>1", "aa", 2, 0, 0);
        Check.walk("a>1*", "aa", 2, 2, 0);
        Check.walk("a*$1", "aa", 2, 2, 0);
        Check.walk("a$1b", "ab", 2, 0, 0);
        Check.walk("a(bc)$1", "abc", 0, 2, 2, 0);
        Check.walk("ab(cd)@1", "abcd", 0, 0, 0, 2, 0);
        Check.walk("(a*b)$1*", "ab", 2, 2, 0);
        Check.walk("(ab)$1*", "aba", 2, 2, 2, -1);
        Check.walk("(ab)*$1", "aba", 2, 2, 2, -1);
        Check.walk("(ab)*>1", "aba", 2, 0, 0, -1);
        Check.walk("(ab)@1*", "aba", 0, 2, 0, -1);
        Check.walk("(ab)(cd)$1", "abcd", 0, 0, 2, 2, 0);
        Check.walk("(a%1b)$2", "ab", 4, 6, 0);
        Check.walk("(ab*)%1c", "abc", 0, 0, 2, 0);
        Check.walk("ab>1|ab>2", "ab", 0, 6, 0);
        Check.walk("a?%1|b?c", "c", 0, 0);
        Check.walk("a?%1%2", "", 6);
        Check.walk("a?%1", "", 2);
        Check.walk("a?>1", "", 0);
        Check.walk("a?$1", "", 0);
        Check.walk("a?@1", "", 0);
        Check.walk("a%1?", "", 0);
        Check.walk("a%1?%2", "a", 0, 6);
        Check.walk("a>0>1@2$3%9", "a", 15, 512);
        Check.walk(" a >1 %2 ", "a", 2, 4);
    }

    private static void where() {
        Check.faultAt("", 0);
        Check.faultAt("  ", 2);
        Check.faultAt("(a", 2);
        Check.faultAt("a)", 1);
        Check.faultAt("a |", 3);
        Check.faultAt("a||b", 2);
        Check.faultAt("|a", 0);
        Check.faultAt("()", 1);
        Check.faultAt("(a|)", 3);
        Check.faultAt("*a", 0);
        Check.faultAt("e", 0);
        Check.faultAt("ab  e", 4);
        Check.faultAt("A", 0);
        Check.faultAt("a0", 1);
        Check.faultAt("a>", 2);
        Check.faultAt("a>x", 2);
        Check.faultAt("a> 1", 2);
        Check.faultAt("a>12", 3);
        Check.faultAt("a%:", 2);
        Check.faultAt("a@/", 2);
        Check.faultAt("[", 1);
        Check.faultAt("[]", 1);
        Check.faultAt("[ a]", 1);
        Check.faultAt("[a ]", 2);
        Check.faultAt("[a", 2);
        Check.faultAt("[.]", 1);
        Check.faultAt("[ae]", 2);
        Check.faultAt("]", 0);
        Check.faultAt("a~", 1);
        EmbedForge x = Check.with("a|");
        Check.fails("5: compile()", Check.ARGUMENT, x::compile);
        Check.due("5: where()", 2, x::where);
        x.text('b');
        Check.due("5: of the latest compile", 2, x::where);
        Check.due("5: compile()", 3, x::compile);
        Check.due("5: it found one", -2, x::where);
        Check.fails("5: compile()", Check.ARGUMENT, () -> Check.compileOf(x, "("));
        Check.due("5: where()", 1, x::where);
        Check.fails("5: too many states", Check.UNSUPPORTED, () -> Check.compileOf(x, Check.FIFTY_ONE_STATES));
        Check.due("5: is an expression", -2, x::where);
    }

    private static void limitsOfExpressions() {
        EmbedForge x = new EmbedForge();
        Check.due("5: 8 deep", 2, () -> Check.compileOf(x, "((((((((a))))))))"));
        Check.due("5: 8 deep twice", 3, () -> Check.compileOf(x, "((((((((a))))))))((((((((b))))))))"));
        Check.faultAt("(((((((((a)))))))))", 8);
        Check.faultAt("a((((((((", 9);
        Check.faultAt("a(((((((((", 9);
        Check.due("5: 30 positions", 31, () -> Check.compileOf(x, "a".repeat(30)));
        Check.due("5: 30 positions", 30, () -> x.count(3));
        Check.due("5: 30 with | between", 2, () -> Check.compileOf(x, "a|".repeat(29) + "a"));
        Check.due("5: in one state", 30, () -> x.state(1, 3));
        Check.due("5: 30 of many letters", 31, () -> Check.compileOf(x, "[ab]" + "a".repeat(29)));
        Check.faultAt("a".repeat(31), 30);
        Check.faultAt("a".repeat(30) + " .", 31);
        Check.faultAt("a".repeat(30) + "[ab]", 30);
        Check.faultAt("a|".repeat(30) + "a", 60);
        Check.faultAt("a".repeat(30) + "((b", 32);
        Check.faultAt("a".repeat(30) + "|", 31);
        Check.faultAt("a".repeat(79) + ")", 30);
        Check.faultAt(" ".repeat(79) + "(", 80);
        Check.due("5: 80 characters", 2, () -> Check.compileOf(x, "a" + "*".repeat(79)));
        Check.due("5: 80 characters", 2, () -> Check.compileOf(x, "a" + ">1".repeat(39) + "+"));
    }

    private static void way() {
        EmbedForge x = Check.compiled("a(b|c)*");
        Check.due("6: way(0, 0)", 1, () -> x.way(0, 0));
        Check.due("6: way(0, 3)", -1, () -> x.way(0, 3));
        Check.due("6: way(1, 1)", 2, () -> x.way(1, 1));
        Check.due("6: way(1, 2)", 3, () -> x.way(1, 2));
        Check.due("6: way(3, 1)", 2, () -> x.way(3, 1));
        Check.due("6: way(3, 0)", -1, () -> x.way(3, 0));
        Check.fails("6: way(0, 4)", Check.ARGUMENT, () -> x.way(0, 4));
        Check.fails("6: way(0, -1)", Check.ARGUMENT, () -> x.way(0, -1));
        Check.fails("6: way(4, 0)", Check.NONE, () -> x.way(4, 0));
        Check.fails("6: way(-1, 0)", Check.NONE, () -> x.way(-1, 0));
        Check.fails("6: way(4, 4)", Check.ARGUMENT, () -> x.way(4, 4));
        Check.fails("6: way(least, least)", Check.ARGUMENT, () -> x.way(Integer.MIN_VALUE, Integer.MIN_VALUE));
        Check.fails("6: way(most, 3)", Check.NONE, () -> x.way(Integer.MAX_VALUE, 3));
        Check.due("6: where the machine is does not matter", 0, () -> x.count(4));
    }

    private static void actions() {
        EmbedForge x = Check.compiled("a>0(b$9|c)*");
        Check.due("7: actions(0, 0)", 1, () -> x.actions(0, 0));
        Check.due("7: actions(1, 1)", 512, () -> x.actions(1, 1));
        Check.due("7: actions(1, 2)", 0, () -> x.actions(1, 2));
        Check.due("7: no way", 0, () -> x.actions(1, 3));
        Check.fails("7: actions(0, 4)", Check.ARGUMENT, () -> x.actions(0, 4));
        Check.fails("7: actions(0, -1)", Check.ARGUMENT, () -> x.actions(0, -1));
        Check.fails("7: actions(4, 0)", Check.NONE, () -> x.actions(4, 0));
        Check.fails("7: actions(-1, 0)", Check.NONE, () -> x.actions(-1, 0));
        Check.fails("7: actions(-1, 9)", Check.ARGUMENT, () -> x.actions(-1, 9));
        Check.due("7: nothing is done", 0, () -> x.count(10));
    }

    private static void state() {
        EmbedForge x = Check.compiled("(a%3|a%4|ab)?%1");
        Check.due("8: 0 is final", 1, () -> x.state(0, 0));
        Check.due("8: with nothing", 2, () -> x.state(0, 1));
        Check.due("8: its class", 0, () -> x.state(0, 2));
        Check.due("8: it has no positions", 0, () -> x.state(0, 3));
        Check.due("8: 1 is final", 1, () -> x.state(1, 0));
        Check.due("8: the last ones together", 2 | 8 | 16, () -> x.state(1, 1));
        Check.due("8: its class", 1, () -> x.state(1, 2));
        Check.due("8: positions", 3, () -> x.state(1, 3));
        Check.due("8: b", 1, () -> x.state(2, 3));
        Check.fails("8: state(0, 4)", Check.ARGUMENT, () -> x.state(0, 4));
        Check.fails("8: state(0, -1)", Check.ARGUMENT, () -> x.state(0, -1));
        Check.fails("8: state(3, 0)", Check.NONE, () -> x.state(3, 0));
        Check.fails("8: state(-1, 3)", Check.NONE, () -> x.state(-1, 3));
        Check.fails("8: state(3, 4)", Check.ARGUMENT, () -> x.state(3, 4));
        EmbedForge y = Check.compiled("ab");
        Check.due("8: not final", 0, () -> y.state(0, 0));
        Check.due("8: not final", 0, () -> y.state(1, 0));
        Check.due("8: no end actions", 0, () -> y.state(1, 1));
        Check.due("8: final", 1, () -> y.state(2, 0));
    }

    private static void classesOf(String text, int... due) {
        EmbedForge x = Check.compiled(text);
        Check.due("8: states of " + text, due.length, () -> x.count(1));
        int least = 0;
        for (int s = 0; s < due.length; s++) {
            int each = s;
            least += due[s] == s ? 1 : 0;
            Check.due("8: class of " + s + " in " + text, due[s], () -> x.state(each, 2));
        }
        Check.due("12: classes of " + text, least, () -> x.count(2));
    }

    private static void classes() {
        classesOf("a*", 0, 0);
        classesOf("a+", 0, 1);
        classesOf("a|b", 0, 1, 1);
        classesOf("a%1|b", 0, 1, 2);
        classesOf("a%1|b%1", 0, 1, 1);
        classesOf("(a|b)*(a|b)", 0, 1, 1);
        classesOf("ac|bc", 0, 1, 1, 3, 3);
        classesOf("ac>1|bc", 0, 1, 2, 3, 3);
        classesOf("ac>1|bc>1", 0, 1, 1, 3, 3);
        classesOf("acc%1|bcc", 0, 1, 2, 3, 4, 5, 6);
        classesOf("a(a(a(a%1)*)*)*", 0, 1, 2, 3, 4);
        classesOf("a>1*", 0, 0);
        classesOf("a*>1", 0, 1);
        classesOf("ad|bd?", 0, 1, 2, 3, 3);
    }

    private static void feed() {
        EmbedForge x = Check.compiled("a>1(b$2%3)*c");
        Check.due("9: a", 2, () -> x.feed(0));
        Check.due("9: at 1", 1, () -> x.count(4));
        Check.fails("9: no way", Check.UNSUPPORTED, () -> x.feed(0));
        Check.due("9: it stays", 1, () -> x.count(4));
        Check.due("9: not fed", 1, () -> x.count(6));
        Check.due("9: b", 4, () -> x.feed(1));
        Check.due("9: b", 12, () -> x.feed(1));
        Check.due("9: done twice", 2, () -> x.count(12));
        Check.due("9: done once", 1, () -> x.count(13));
        Check.fails("9: feed(4)", Check.ARGUMENT, () -> x.feed(4));
        Check.fails("9: feed(-1)", Check.ARGUMENT, () -> x.feed(-1));
        Check.due("9: c", 8, () -> x.feed(2));
        Check.due("9: fed", 4, () -> x.count(6));
        x.end();
        Check.fails("9: at its end", Check.STATE, () -> x.feed(0));
        Check.fails("9: another letter at its end", Check.ARGUMENT, () -> x.feed(4));
        EmbedForge y = new EmbedForge();
        Check.fails("9: another letter with nothing compiled", Check.ARGUMENT, () -> y.feed(4));
        Check.fails("9: nothing compiled", Check.STATE, () -> y.feed(3));
    }

    private static void end() {
        EmbedForge x = Check.compiled("(ab%1)*%2");
        x.feed(0);
        Check.fails("10: not final", Check.UNSUPPORTED, x::end);
        Check.due("10: not at its end", 0, () -> x.count(5));
        x.feed(1);
        Check.due("10: end()", 6, x::end);
        Check.due("10: at its end", 1, () -> x.count(5));
        Check.due("10: the state is the same", 2, () -> x.count(4));
        Check.due("10: no letter", 2, () -> x.count(6));
        Check.due("10: done", 1, () -> x.count(11));
        Check.due("10: done", 1, () -> x.count(12));
        Check.fails("10: at its end", Check.STATE, x::end);
        Check.due("10: not done again", 1, () -> x.count(12));
        x.compile();
        Check.due("10: nothing", 4, x::end);
        EmbedForge y = new EmbedForge();
        Check.fails("10: nothing compiled", Check.STATE, y::end);
    }

    private static void jump() {
        EmbedForge x = Check.compiled("a>1b>2c?%3");
        x.feed(0);
        x.feed(1);
        Check.due("11: jump(1)", 2, () -> x.jump(1));
        Check.due("11: at 1", 1, () -> x.count(4));
        Check.due("11: nothing fed", 0, () -> x.count(6));
        Check.due("11: nothing done", 0, () -> x.count(11));
        Check.due("11: it goes on from there", 4, () -> x.feed(1));
        Check.due("11: fed since", 1, () -> x.count(6));
        x.end();
        Check.due("11: done since", 1, () -> x.count(13));
        Check.fails("11: no state 4", Check.NONE, () -> x.jump(4));
        Check.fails("11: no state -1", Check.NONE, () -> x.jump(-1));
        Check.due("11: still at its end", 1, () -> x.count(5));
        Check.due("11: still done", 1, () -> x.count(13));
        Check.due("11: from its end", 2, () -> x.jump(3));
        Check.due("11: not at its end", 0, () -> x.count(5));
        Check.due("11: nothing done", 0, () -> x.count(13));
        Check.due("11: end()", 8, x::end);
        Check.due("11: to the beginning", 3, () -> x.jump(0));
        Check.fails("11: nothing compiled", Check.STATE, () -> new EmbedForge().jump(0));
        Check.fails("11: nothing compiled, no such state", Check.STATE, () -> new EmbedForge().jump(7));
    }

    private static void count() {
        EmbedForge x = Check.compiled("a$0*|b$9 ");
        x.feed(0);
        x.feed(0);
        x.feed(0);
        int[] due = {9, 3, 3, 2, 1, 0, 3};
        for (int what = 0; what < due.length; what++) {
            int each = what;
            Check.due("12: count(" + what + ")", due[what], () -> x.count(each));
        }
        for (int n = 0; n < 10; n++) {
            int each = n;
            Check.due("12: count(10 + " + n + ")", n == 0 ? 3 : 0, () -> x.count(10 + each));
        }
        x.jump(0);
        x.feed(1);
        Check.due("12: action 9", 1, () -> x.count(19));
        EmbedForge y = new EmbedForge();
        for (int what : new int[] {-1, 7, 8, 9, 20, Integer.MIN_VALUE, Integer.MAX_VALUE}) {
            Check.fails("12: count(" + what + ")", Check.ARGUMENT, () -> x.count(what));
            Check.fails("12: count(" + what + "), nothing compiled", Check.ARGUMENT, () -> y.count(what));
        }
        Check.write(y, "abc");
        Check.due("12: characters, nothing compiled", 3, () -> y.count(0));
        Check.fails("12: another text", Check.ARGUMENT, () -> Check.compileOf(x, "abc|"));
        Check.due("12: its characters", 4, () -> x.count(0));
        Check.due("12: positions of the machine", 2, () -> x.count(3));
    }

    /** What an earlier text, net or machine left in the rows must not show. */
    private static void nothingLeftBehind() {
        EmbedForge x = new EmbedForge();
        Check.due("4: with actions", 4, () -> Check.compileOf(x, "(a>1b%2c)*$3@4%5"));
        Check.due("4: without", 4, () -> Check.compileOf(x, "(abc)*"));
        for (int s = 0; s < 4; s++) {
            int from = s;
            for (int letter = 0; letter < 4; letter++) {
                int each = letter;
                Check.due("4: no actions", 0, () -> x.actions(from, each));
            }
            Check.due("4: no end actions", 0, () -> x.state(from, 1));
        }
        for (int again = 0; again < 3; again++) {
            Check.due("4: all apart", 5, () -> Check.compileOf(x, "acc%1a"));
            Check.due("12: classes", 5, () -> x.count(2));
            Check.due("4: then alike", 5, () -> Check.compileOf(x, "a*b*c*d*"));
            Check.due("12: classes", 4, () -> x.count(2));
            Check.due("8: class", 0, () -> x.state(1, 2));
        }
        Check.due("4: a digit", 2, () -> Check.compileOf(x, "a>1"));
        Check.fails("4: without it", Check.ARGUMENT, () -> Check.compileOf(x, "a>"));
        Check.due("5: at the end", 2, x::where);
        Check.due("4: letters", 2, () -> Check.compileOf(x, "[abc]"));
        Check.fails("4: fewer", Check.ARGUMENT, () -> Check.compileOf(x, "[a"));
        Check.due("5: at the end", 2, x::where);
        Check.due("4: a group", 3, () -> Check.compileOf(x, "(ab)"));
        Check.fails("4: not closed", Check.ARGUMENT, () -> Check.compileOf(x, "(ab"));
        Check.due("5: at the end", 3, x::where);
    }

    /** 512 calls on one object, each compile as heavy as can be, leave nothing behind. */
    private static void manyCalls() {
        EmbedForge x = Check.with(Check.FIFTY_STATES);
        for (int call = 4; call < 510; call++) {
            Check.due("4: again and again", 50, x::compile);
        }
        Check.due("4: the last", 0, () -> x.count(4));
    }
}
