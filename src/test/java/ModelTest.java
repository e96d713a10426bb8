import java.util.Random;

/** Long runs of calls, always the same ones, on the program and on the model; every answer must agree. */
public final class ModelTest {
    private static final int RUNS = 600;
    private static final String NEAR = "aaabbccdd..[[]]((()))|||**++??>@$%01239    ex~";

    private final Random random;
    private final EmbedForge forge = new EmbedForge();
    private final Model model = new Model();
    private final StringBuilder story = new StringBuilder();
    private int calls = 0;

    private ModelTest(long seed) {
        random = new Random(seed);
    }

    public static void main(String[] args) {
        for (int seed = 0; seed < RUNS && !Check.anyWrong(); seed++) {
            new ModelTest(seed).run(seed);
        }
        Check.finish();
    }

    private void run(int seed) {
        boolean sweeping = seed % 3 == 0;
        while (calls < 440) {
            if (random.nextInt(sweeping ? 3 : 12) == 0) {
                newText();
                compare("compile()", forge::compile, model::compile);
                compare("where()", forge::where, model::where);
            }
            if (sweeping && random.nextInt(3) == 0) {
                sweep();
            }
            anyCall();
        }
        if (Check.anyWrong()) {
            System.out.println("run " + seed + ":" + story);
        }
    }

    private void compare(String call, Check.Call program, Check.Call due) {
        calls++;
        String want = Check.answer(due);
        story.append(' ').append(call).append("=").append(want);
        Check.same(call, want, Check.answer(program));
    }

    private void newText() {
        if (random.nextInt(8) != 0) {
            compare("clear()", forge::clear, model::clear);
        }
        String text = expression(random.nextInt(4) == 0 ? 9 : 3);
        if (random.nextInt(4) == 0) {
            text = spoil(text);
        }
        if (text.length() > 80 && random.nextInt(10) != 0) {
            text = text.substring(0, 80);
        }
        story.append(" '").append(text).append("'");
        for (int from = 0; from < text.length(); from += 8) {
            long w = Check.pack(text.substring(from, Math.min(from + 8, text.length())));
            compare("text(" + w + ")", () -> forge.text(w), () -> model.text(w));
        }
    }

    private String expression(int depth) {
        StringBuilder made = new StringBuilder(term(depth));
        while (random.nextInt(3) == 0) {
            made.append(blank()).append('|').append(term(depth));
        }
        return made.toString();
    }

    private String term(int depth) {
        StringBuilder made = new StringBuilder(factor(depth));
        while (random.nextInt(2) == 0) {
            made.append(factor(depth));
        }
        return made.toString();
    }

    private String factor(int depth) {
        StringBuilder made = new StringBuilder(blank()).append(atom(depth));
        while (random.nextInt(2) == 0) {
            made.append(blank());
            char sign = "*+?>@$%".charAt(random.nextInt(7));
            made.append(sign);
            if (">@$%".indexOf(sign) >= 0) {
                made.append(random.nextInt(10));
            }
        }
        return made.append(blank()).toString();
    }

    private String atom(int depth) {
        int kind = random.nextInt(8);
        if (depth > 0 && (kind < 3 || depth > 4 && kind < 6)) {
            return "(" + expression(depth - 1) + ")";
        }
        if (kind == 3) {
            return ".";
        }
        if (kind == 4) {
            StringBuilder made = new StringBuilder("[");
            do {
                made.append(letter());
            } while (random.nextInt(2) == 0);
            return made.append(']').toString();
        }
        return String.valueOf(letter());
    }

    private char letter() {
        return "aabbcd".charAt(random.nextInt(6));
    }

    private String blank() {
        return random.nextInt(12) == 0 ? " " : "";
    }

    private String spoil(String text) {
        StringBuilder made = new StringBuilder(text);
        int place = random.nextInt(made.length());
        char c = NEAR.charAt(random.nextInt(NEAR.length()));
        switch (random.nextInt(4)) {
            case 0 -> made.insert(place, c);
            case 1 -> made.setCharAt(place, c);
            case 2 -> made.deleteCharAt(place);
            default -> made.setLength(place);
        }
        return made.toString();
    }

    /** Every state with every letter, as far as the calls of one object go. */
    private void sweep() {
        for (int s = 0; s < model.count(1) && calls < 440; s++) {
            int state = s;
            for (int k = 0; k < 4; k++) {
                int each = k;
                compare("way(" + s + ", " + k + ")", () -> forge.way(state, each), () -> model.way(state, each));
                compare("actions(" + s + ", " + k + ")",
                        () -> forge.actions(state, each), () -> model.actions(state, each));
                compare("state(" + s + ", " + k + ")", () -> forge.state(state, each), () -> model.state(state, each));
            }
        }
    }

    private void anyCall() {
        int s = random.nextInt(20) == 0 ? random.nextInt() : random.nextInt(model.count(1) + 2) - 1;
        int k = random.nextInt(20) == 0 ? random.nextInt() : random.nextInt(10) == 0 ? random.nextInt(7) - 2
                : random.nextInt(4);
        switch (random.nextInt(12)) {
            case 0 -> compare("way(" + s + ", " + k + ")", () -> forge.way(s, k), () -> model.way(s, k));
            case 1 -> compare("actions(" + s + ", " + k + ")", () -> forge.actions(s, k), () -> model.actions(s, k));
            case 2 -> compare("state(" + s + ", " + k + ")", () -> forge.state(s, k), () -> model.state(s, k));
            case 3 -> compare("end()", forge::end, model::end);
            case 4 -> compare("jump(" + s + ")", () -> forge.jump(s), () -> model.jump(s));
            case 5, 6 -> anyCount();
            case 7 -> anyBytes();
            case 8 -> compare("where()", forge::where, model::where);
            default -> compare("feed(" + k + ")", () -> forge.feed(k), () -> model.feed(k));
        }
    }

    private void anyCount() {
        int what = random.nextInt(23) - 1;
        compare("count(" + what + ")", () -> forge.count(what), () -> model.count(what));
    }

    private void anyBytes() {
        long w = random.nextInt(6) == 0 ? random.nextLong() : Check.pack("a\0b\0|c".substring(random.nextInt(6)));
        compare("text(" + w + ")", () -> forge.text(w), () -> model.text(w));
    }
}
