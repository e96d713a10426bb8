import java.util.ArrayList;
import java.util.List;

/** Counts what is wrong in a test program, and ends it with exit code 1 if there was anything. */
final class Check {
    /** What a call answers: the number, or the exception's simple name behind "throws.". */
    interface Call {
        int run();
    }

    private static final List<String> WRONG = new ArrayList<>();
    private static int asked = 0;

    private Check() {
    }

    static String answer(Call call) {
        try {
            return Integer.toString(call.run());
        } catch (RuntimeException e) {
            return "throws." + e.getClass().getSimpleName();
        }
    }

    static void due(String what, int want, Call call) {
        same(what, Integer.toString(want), answer(call));
    }

    static void fails(String what, Class<? extends RuntimeException> want, Call call) {
        same(what, "throws." + want.getSimpleName(), answer(call));
    }

    static void same(String what, String want, String got) {
        asked++;
        if (!want.equals(got)) {
            WRONG.add(what);
            if (WRONG.size() <= 20) {
                System.out.println(what + " answered " + got + ", due is " + want);
            }
        }
    }

    static boolean anyWrong() {
        return !WRONG.isEmpty();
    }

    static void finish() {
        System.out.println(asked + " answers, " + WRONG.size() + " not as due");
        if (anyWrong()) {
            System.exit(1);
        }
    }

    /** Puts a text into the object, eight characters a call. */
    static void write(EmbedForge forge, String text) {
        for (int from = 0; from < text.length(); from += 8) {
            forge.text(pack(text.substring(from, Math.min(from + 8, text.length()))));
        }
    }

    /** Up to eight characters as the bytes of a long, the first highest. */
    static long pack(String text) {
        long w = 0;
        for (int i = 0; i < text.length(); i++) {
            w = w << 8 | text.charAt(i);
        }
        return w;
    }

    static EmbedForge with(String text) {
        EmbedForge forge = new EmbedForge();
        write(forge, text);
        return forge;
    }

    static EmbedForge compiled(String text) {
        EmbedForge forge = with(text);
        forge.compile();
        return forge;
    }
}
