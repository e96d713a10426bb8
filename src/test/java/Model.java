import java.util.ArrayList;
import java.util.HashSet;
import java.util.LinkedHashMap;
import java.util.List;
import java.util.Map;
import java.util.NoSuchElementException;
import java.util.Set;
import java.util.TreeMap;
import java.util.TreeSet;
import java.util.regex.Pattern;

/**
 * The document once more, slow and by other means than the program: whether a text is an expression is
 * told by rewriting it with patterns, where it stops being one by trying ends, what comes first, last and
 * behind is worked out in maps over a tree, and states are told apart pair by pair.
 */
final class Model {
    private final StringBuilder text = new StringBuilder();
    private int fault = -2;
    private Table table = null;
    private int at = 0;
    private boolean ended = false;
    private int fed = 0;
    private final int[] done = new int[10];

    int text(long w) {
        StringBuilder more = new StringBuilder();
        for (int i = 7; i >= 0; i--) {
            int c = (int) (w >>> 8 * i & 0xFF);
            if (c != 0) {
                if (c < 32 || c > 126) {
                    throw new IllegalArgumentException();
                }
                more.append((char) c);
            }
        }
        if (text.length() + more.length() > 80) {
            throw new IllegalStateException();
        }
        text.append(more);
        return text.length();
    }

    int clear() {
        int had = text.length();
        text.setLength(0);
        return had;
    }

    int compile() {
        String source = text.toString();
        fault = faultIn(source);
        if (fault != -2) {
            throw new IllegalArgumentException();
        }
        Table found = new Table(new Tree(source));
        if (found.sets.size() > 50) {
            throw new UnsupportedOperationException();
        }
        table = found;
        restart(0);
        return table.sets.size();
    }

    int where() {
        return fault;
    }

    int way(int s, int letter) {
        look(letter >= 0 && letter < 4, s);
        return table.ways.get(s)[letter];
    }

    int actions(int s, int letter) {
        look(letter >= 0 && letter < 4, s);
        return table.acts.get(s)[letter];
    }

    int state(int s, int what) {
        look(what >= 0 && what < 4, s);
        return switch (what) {
            case 0 -> table.isFinal(s) ? 1 : 0;
            case 1 -> table.ending(s);
            case 2 -> table.leastAlike(s);
            default -> table.sets.get(s).size();
        };
    }

    int feed(int letter) {
        if (letter < 0 || letter > 3) {
            throw new IllegalArgumentException();
        }
        if (table == null || ended) {
            throw new IllegalStateException();
        }
        if (table.ways.get(at)[letter] < 0) {
            throw new UnsupportedOperationException();
        }
        int due = table.acts.get(at)[letter];
        at = table.ways.get(at)[letter];
        fed++;
        perform(due);
        return due;
    }

    int end() {
        if (table == null || ended) {
            throw new IllegalStateException();
        }
        if (!table.isFinal(at)) {
            throw new UnsupportedOperationException();
        }
        ended = true;
        perform(table.ending(at));
        return table.ending(at);
    }

    int jump(int s) {
        if (table == null) {
            throw new IllegalStateException();
        }
        look(true, s);
        int was = at;
        restart(s);
        return was;
    }

    int count(int what) {
        if (what < 0 || what > 19 || what > 6 && what < 10) {
            throw new IllegalArgumentException();
        }
        if (what == 0) {
            return text.length();
        }
        if (table == null) {
            return 0;
        }
        return switch (what) {
            case 1 -> table.sets.size();
            case 2 -> table.classes();
            case 3 -> table.tree.letters.size();
            case 4 -> at;
            case 5 -> ended ? 1 : 0;
            case 6 -> fed;
            default -> done[what - 10];
        };
    }

    private void look(boolean good, int s) {
        if (!good) {
            throw new IllegalArgumentException();
        }
        if (table == null || s < 0 || s >= table.sets.size()) {
            throw new NoSuchElementException();
        }
    }

    private void restart(int s) {
        at = s;
        ended = false;
        fed = 0;
        java.util.Arrays.fill(done, 0);
    }

    private void perform(int due) {
        for (int n = 0; n < 10; n++) {
            done[n] += due >> n & 1;
        }
    }

    // ---- is it an expression, and where does it stop being one

    private static final Pattern GROUP =
            Pattern.compile("\\((P[S*+?]*)+(\\|(P[S*+?]*)+)*\\)");
    private static final Pattern WHOLE =
            Pattern.compile("(P[S*+?]*)+(\\|(P[S*+?]*)+)*");
    private static final Pattern CAPITAL = Pattern.compile("[A-Z]");
    private static final Pattern ACTION = Pattern.compile("[>@$%][0-9]");
    private static final Pattern LETTERS = Pattern.compile("\\[[a-d]+\\]|[a-d.]");
    private static final String[] ENDS = {"", "a", "0", "]", "a]"};

    /** Place of the first character with which none goes on, the length if the end is missing, or -2. */
    static int faultIn(String source) {
        if (isExpression(source) && withinLimits(source)) {
            return -2;
        }
        for (int i = 0; i < source.length(); i++) {
            if (!goesOn(source.substring(0, i + 1))) {
                return i;
            }
        }
        return source.length();
    }

    private static boolean goesOn(String beginning) {
        if (!withinLimits(beginning)) {
            return false;
        }
        int open = Math.max(0, opened(beginning));
        for (String end : ENDS) {
            if (isExpression(beginning + end + ")".repeat(open))) {
                return true;
            }
        }
        return false;
    }

    private static boolean isExpression(String source) {
        String s = CAPITAL.matcher(source).replaceAll("!");
        s = ACTION.matcher(s).replaceAll("S");
        s = LETTERS.matcher(s).replaceAll("P");
        s = s.replace(" ", "");
        String before = null;
        while (!s.equals(before)) {
            before = s;
            s = GROUP.matcher(s).replaceAll("P");
        }
        return WHOLE.matcher(s).matches();
    }

    private static int opened(String beginning) {
        return beginning.replaceAll("[^(]", "").length() - beginning.replaceAll("[^)]", "").length();
    }

    private static boolean withinLimits(String beginning) {
        int depth = 0;
        int deepest = 0;
        for (char c : beginning.toCharArray()) {
            depth += c == '(' ? 1 : c == ')' ? -1 : 0;
            deepest = Math.max(deepest, depth);
        }
        String bare = beginning.replaceAll("\\[[a-d]*\\]?", "P").replaceAll("[a-d.]", "P");
        long positions = bare.chars().filter(c -> c == 'P').count()
                - beginning.chars().filter(c -> c == 'P').count();
        return deepest <= 8 && positions <= 30;
    }

    // ---- what comes first, last and behind

    /** First, last: position to actions. Steps: x * 100 + y to actions. */
    private static final class Facts {
        final Map<Integer, Integer> first = new TreeMap<>();
        final Map<Integer, Integer> last = new TreeMap<>();
        final Map<Integer, Integer> steps = new TreeMap<>();
        boolean empty;
        int nothing;
    }

    /** Reads a text that is known to be an expression. */
    private static final class Tree {
        final List<String> letters = new ArrayList<>();
        final Facts whole;
        private final String source;
        private int i = 0;

        Tree(String text) {
            source = text.replace(" ", "");
            whole = expression();
        }

        private boolean sees(String some) {
            return i < source.length() && some.indexOf(source.charAt(i)) >= 0;
        }

        private Facts expression() {
            Facts e = term();
            while (sees("|")) {
                i++;
                e = either(e, term());
            }
            return e;
        }

        /** From the right, while the program goes from the left: both must come to the same. */
        private Facts term() {
            Facts e = factor();
            return sees("abcd.[(") ? chain(e, term()) : e;
        }

        private Facts factor() {
            Facts e = atom();
            while (sees("*+?>@$%")) {
                char sign = source.charAt(i++);
                e = switch (sign) {
                    case '*', '+' -> loop(e, sign);
                    case '?' -> maybe(e);
                    default -> act(e, sign, 1 << source.charAt(i++) - '0');
                };
            }
            return e;
        }

        private Facts atom() {
            char c = source.charAt(i++);
            if (c == '(') {
                Facts e = expression();
                i++;
                return e;
            }
            Facts p = new Facts();
            p.first.put(letters.size(), 0);
            p.last.put(letters.size(), 0);
            if (c == '[') {
                int close = source.indexOf(']', i);
                letters.add(source.substring(i, close));
                i = close + 1;
            } else {
                letters.add(c == '.' ? "abcd" : String.valueOf(c));
            }
            return p;
        }
    }

    private static void add(Map<Integer, Integer> to, Map<Integer, Integer> from, int more) {
        from.forEach((k, v) -> to.merge(k, v | more, (x, y) -> x | y));
    }

    private static void addLinks(Facts to, Facts e, Facts f) {
        e.last.forEach((x, a) -> f.first.forEach((y, b) -> to.steps.merge(x * 100 + y, a | b, (p, q) -> p | q)));
    }

    private static Facts copy(Facts e) {
        Facts r = new Facts();
        add(r.first, e.first, 0);
        add(r.last, e.last, 0);
        add(r.steps, e.steps, 0);
        r.empty = e.empty;
        r.nothing = e.nothing;
        return r;
    }

    private static Facts either(Facts e, Facts f) {
        Facts r = copy(e);
        add(r.first, f.first, 0);
        add(r.last, f.last, 0);
        add(r.steps, f.steps, 0);
        r.empty = e.empty || f.empty;
        r.nothing = (e.empty ? e.nothing : 0) | (f.empty ? f.nothing : 0);
        return r;
    }

    private static Facts chain(Facts e, Facts f) {
        Facts r = new Facts();
        add(r.steps, e.steps, 0);
        add(r.steps, f.steps, 0);
        addLinks(r, e, f);
        add(r.first, e.first, 0);
        if (e.empty) {
            add(r.first, f.first, e.nothing);
        }
        add(r.last, f.last, 0);
        if (f.empty) {
            add(r.last, e.last, f.nothing);
        }
        r.empty = e.empty && f.empty;
        r.nothing = r.empty ? e.nothing | f.nothing : 0;
        return r;
    }

    private static Facts loop(Facts e, char sign) {
        Facts r = sign == '*' ? maybe(e) : copy(e);
        addLinks(r, e, e);
        return r;
    }

    private static Facts maybe(Facts e) {
        Facts r = copy(e);
        r.nothing = e.empty ? e.nothing : 0;
        r.empty = true;
        return r;
    }

    private static Facts act(Facts e, char sign, int bit) {
        Facts r = copy(e);
        if (sign == '>' || sign == '$') {
            r.first.replaceAll((p, a) -> a | bit);
        }
        if (sign == '$') {
            r.steps.replaceAll((p, a) -> a | bit);
        }
        if (sign == '%') {
            r.last.replaceAll((p, a) -> a | bit);
            r.nothing |= e.empty ? bit : 0;
        }
        if (sign == '@') {
            r.first.replaceAll((p, a) -> e.last.containsKey(p) ? a | bit : a);
            r.steps.replaceAll((xy, a) -> e.last.containsKey(xy % 100) ? a | bit : a);
        }
        return r;
    }

    // ---- states and classes

    private static final class Table {
        final Tree tree;
        final List<Set<Integer>> sets = new ArrayList<>();
        final List<int[]> ways = new ArrayList<>();
        final List<int[]> acts = new ArrayList<>();
        private boolean[][] apart;

        Table(Tree tree) {
            this.tree = tree;
            Map<Set<Integer>, Integer> known = new LinkedHashMap<>();
            sets.add(new TreeSet<>());
            for (int s = 0; s < sets.size() && sets.size() <= 50; s++) {
                int[] to = new int[4];
                int[] act = new int[4];
                for (int letter = 0; letter < 4; letter++) {
                    Set<Integer> reached = new TreeSet<>();
                    act[letter] = reach(s, "abcd".charAt(letter), reached);
                    if (reached.isEmpty()) {
                        to[letter] = -1;
                    } else {
                        if (!known.containsKey(reached)) {
                            known.put(reached, sets.size());
                            sets.add(reached);
                        }
                        to[letter] = known.get(reached);
                    }
                }
                ways.add(to);
                acts.add(act);
            }
            if (sets.size() <= 50) {
                tellApart();
            }
        }

        private int reach(int s, char letter, Set<Integer> reached) {
            int due = 0;
            Map<Integer, Integer> edges = s == 0 ? tree.whole.first : tree.whole.steps;
            for (Map.Entry<Integer, Integer> edge : edges.entrySet()) {
                int y = edge.getKey() % 100;
                boolean begins = s == 0 || sets.get(s).contains(edge.getKey() / 100);
                if (begins && tree.letters.get(y).indexOf(letter) >= 0) {
                    reached.add(y);
                    due |= edge.getValue();
                }
            }
            return due;
        }

        boolean isFinal(int s) {
            return s == 0 ? tree.whole.empty : sets.get(s).stream().anyMatch(tree.whole.last::containsKey);
        }

        int ending(int s) {
            if (s == 0) {
                return tree.whole.empty ? tree.whole.nothing : 0;
            }
            return sets.get(s).stream().mapToInt(p -> tree.whole.last.getOrDefault(p, 0)).reduce(0, (a, b) -> a | b);
        }

        private void tellApart() {
            int n = sets.size();
            apart = new boolean[n][n];
            boolean more = true;
            while (more) {
                more = false;
                for (int s = 0; s < n; s++) {
                    for (int t = 0; t < n; t++) {
                        if (!apart[s][t] && differ(s, t)) {
                            apart[s][t] = true;
                            more = true;
                        }
                    }
                }
            }
        }

        private boolean differ(int s, int t) {
            if (isFinal(s) != isFinal(t) || ending(s) != ending(t)) {
                return true;
            }
            for (int letter = 0; letter < 4; letter++) {
                int x = ways.get(s)[letter];
                int y = ways.get(t)[letter];
                if (x < 0 != y < 0 || acts.get(s)[letter] != acts.get(t)[letter]) {
                    return true;
                }
                if (x >= 0 && apart[x][y]) {
                    return true;
                }
            }
            return false;
        }

        int leastAlike(int s) {
            int t = 0;
            while (apart[s][t]) {
                t++;
            }
            return t;
        }

        int classes() {
            Set<Integer> least = new HashSet<>();
            for (int s = 0; s < sets.size(); s++) {
                least.add(leastAlike(s));
            }
            return least.size();
        }
    }
}
