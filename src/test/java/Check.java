import java.util.ArrayList;
import java.util.List;
import java.util.NoSuchElementException;

/** Counts what is wrong in a test program, and ends it with exit code 1 if there was anything. */
final class Check {
    /** What a call answers: the number, or the exception's simple name behind "throws.". */
    interface Call {
        int run();
    }

    /** A call on an object that is handed in. */
    interface Use {
        int on(EmbedForge forge);
    }

    static final Class<IllegalArgumentException> ARGUMENT = IllegalArgumentException.class;
    static final Class<IllegalStateException> STATE = IllegalStateException.class;
    static final Class<UnsupportedOperationException> UNSUPPORTED = UnsupportedOperationException.class;
    static final Class<NoSuchElementException> NONE = NoSuchElementException.class;
    static final String FIFTY_STATES = "a".repeat(17) + ".*a....";
    static final String FIFTY_ONE_STATES = "a".repeat(18) + ".*a....";

    private static final List<String> WRONG = new ArrayList<>();
    private static int asked = 0;
    private static String about = "";

    private Check() {
    }

    /** What is asked from here on stands for this sentence of the document. */
    static void about(String section, String sentence) {
        about = section + ", '" + sentence + "': ";
    }

    static String answer(Call call) {
        try {
            return Integer.toString(call.run());
        } catch (RuntimeException e) {
            return "throws." + e.getClass().getSimpleName();
        }
    }

    static void due(String what, int want, Call call) {
        same(what, Integer.toString(want), answer(call));
    }

    static void fails(String what, Class<? extends RuntimeException> want, Call call) {
        same(what, "throws." + want.getSimpleName(), answer(call));
    }

    static void same(String what, String want, String got) {
        asked++;
        if (!want.equals(got)) {
            WRONG.add(what);
            if (WRONG.size() <= 20) {
                System.out.println(about + what + " answered " + got + ", due is " + want);
            }
        }
    }

    /** The call throws, and nothing that can be asked for is another than before. */
    static void refused(String what, Class<? extends RuntimeException> want, EmbedForge forge, Use use) {
        String before = everything(forge);
        fails(what, want, () -> use.on(forge));
        same(what + ": what is there then", before, everything(forge));
    }

    /** All that can be asked for without changing anything: 18 calls, and 12 for each state. */
    static String everything(EmbedForge forge) {
        StringBuilder all = new StringBuilder("where " + forge.where() + " count");
        for (int what = 0; what < 20; what++) {
            if (what < 7 || what > 9) {
                all.append(' ').append(forge.count(what));
            }
        }
        int states = forge.count(1);
        for (int s = 0; s < states; s++) {
            all.append(" state ").append(s);
            for (int i = 0; i < 4; i++) {
                all.append(' ').append(forge.state(s, i));
                all.append(' ').append(forge.way(s, i));
                all.append(' ').append(forge.actions(s, i));
            }
        }
        return all.toString();
    }

    static boolean anyWrong() {
        return !WRONG.isEmpty();
    }

    static void finish() {
        System.out.println(asked + " answers, " + WRONG.size() + " not as due");
        if (anyWrong()) {
            System.exit(1);
        }
    }

    /** Puts a text into the object, eight characters a call. */
    static void write(EmbedForge forge, String text) {
        for (int from = 0; from < text.length(); from += 8) {
            forge.text(pack(text.substring(from, Math.min(from + 8, text.length()))));
        }
    }

    /** Up to eight characters as the bytes of a long, the first highest. */
    static long pack(String text) {
        long w = 0;
        for (int i = 0; i < text.length(); i++) {
            w = w << 8 | text.charAt(i);
        }
        return w;
    }

    static int compileOf(EmbedForge forge, String text) {
        forge.clear();
        write(forge, text);
        return forge.compile();
    }

    static EmbedForge with(String text) {
        EmbedForge forge = new EmbedForge();
        write(forge, text);
        return forge;
    }

    static EmbedForge compiled(String text) {
        EmbedForge forge = with(text);
        forge.compile();
        return forge;
    }

    /** The rows are: text, then for a row of letters the actions of each way, and the end actions or -1. */
    static void walk(String text, String letters, int... due) {
        EmbedForge x = compiled(text);
        for (int i = 0; i < letters.length(); i++) {
            int letter = letters.charAt(i) - 'a';
            due(text + " with " + letters + " at " + i, due[i], () -> x.feed(letter));
        }
        if (due[letters.length()] < 0) {
            fails(text + " ends behind " + letters, UNSUPPORTED, x::end);
        } else {
            due(text + " ends behind " + letters, due[letters.length()], x::end);
        }
    }

    static void faultAt(String text, int place) {
        EmbedForge x = with(text);
        fails("compile of '" + text + "'", ARGUMENT, x::compile);
        due("where() of '" + text + "'", place, x::where);
    }
}
