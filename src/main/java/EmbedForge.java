import java.util.Arrays;
import java.util.NoSuchElementException;

/** Machines out of expressions with actions in them; ../shared/DOC.md says what each call promises. */
public final class EmbedForge {
    private static final int MAX_TEXT = 80;
    private static final int MAX_DEPTH = 8;
    private static final int MAX_POSITIONS = 30;
    private static final int MAX_STATES = 50;
    private static final int LETTER_COUNT = 4;
    private static final int ACTION_COUNT = 10;
    private static final int ALL_LETTERS = 15;
    private static final int ALL_POSITIONS = -1;
    /** Stands behind the last character; no text has it. */
    private static final char NO_CHARACTER = 0;
    private static final int NO_WAY = -1;
    private static final int NO_FAULT = -2;

    private final char[] row;
    private int length;
    private int fault;
    private final Parser parser;
    private final Walk walk;
    private Machine machine;
    /** A compile builds here, so that one that fails leaves the machine alone. */
    private Machine spare;

    public EmbedForge() {
        row = new char[MAX_TEXT];
        length = 0;
        fault = NO_FAULT;
        parser = new Parser();
        walk = new Walk();
        machine = new Machine();
        spare = new Machine();
    }

    public int text(long w) throws IllegalArgumentException, IllegalStateException {
        int more = 0;
        for (int shift = 56; shift >= 0; shift -= 8) {
            int c = byteAt(w, shift);
            if (c != 0 && (c < 32 || c > 126)) {
                throw new IllegalArgumentException();
            }
            if (c != 0) {
                more++;
            }
        }
        if (length + more > MAX_TEXT) {
            throw new IllegalStateException();
        }
        append(w);
        return length;
    }

    public int clear() {
        int had = length;
        length = 0;
        return had;
    }

    public int compile() throws IllegalArgumentException, UnsupportedOperationException {
        if (!parser.parse(row, length)) {
            fault = parser.place();
            throw new IllegalArgumentException();
        }
        fault = NO_FAULT;
        if (!spare.build(parser.net, parser.whole())) {
            throw new UnsupportedOperationException();
        }
        Machine old = machine;
        machine = spare;
        spare = old;
        walk.restart(0);
        return machine.states;
    }

    public int where() {
        return fault;
    }

    public int way(int s, int letter) throws IllegalArgumentException, NoSuchElementException {
        checkLetter(letter);
        checkState(s);
        return machine.target(s, letter);
    }

    public int actions(int s, int letter) throws IllegalArgumentException, NoSuchElementException {
        checkLetter(letter);
        checkState(s);
        return machine.actionsOnWay(s, letter);
    }

    public int state(int s, int what) throws IllegalArgumentException, NoSuchElementException {
        if (what < 0 || what > 3) {
            throw new IllegalArgumentException();
        }
        checkState(s);
        switch (what) {
            case 0:
                return machine.finals[s] ? 1 : 0;
            case 1:
                return machine.endActions[s];
            case 2:
                return machine.classes[s];
            default:
                return Integer.bitCount(machine.sets[s]);
        }
    }

    public int feed(int letter)
            throws IllegalArgumentException, IllegalStateException, UnsupportedOperationException {
        checkLetter(letter);
        checkGoing();
        int to = machine.target(walk.at, letter);
        if (to == NO_WAY) {
            throw new UnsupportedOperationException();
        }
        int due = machine.actionsOnWay(walk.at, letter);
        walk.goOn(to, due);
        return due;
    }

    public int end() throws IllegalStateException, UnsupportedOperationException {
        checkGoing();
        if (!machine.finals[walk.at]) {
            throw new UnsupportedOperationException();
        }
        int due = machine.endActions[walk.at];
        walk.finish(due);
        return due;
    }

    public int jump(int s) throws IllegalStateException, NoSuchElementException {
        checkCompiled();
        checkState(s);
        int was = walk.at;
        walk.restart(s);
        return was;
    }

    public int count(int what) throws IllegalArgumentException {
        if (what >= 10 && what < 10 + ACTION_COUNT) {
            return walk.done[what - 10];
        }
        switch (what) {
            case 0:
                return length;
            case 1:
                return machine.states;
            case 2:
                return machine.classCount;
            case 3:
                return machine.positions;
            case 4:
                return walk.at;
            case 5:
                return walk.ended ? 1 : 0;
            case 6:
                return walk.fed;
            default:
                throw new IllegalArgumentException();
        }
    }

    private static int byteAt(long w, int shift) {
        return (int) (w >>> shift) & 255;
    }

    private void append(long w) {
        for (int shift = 56; shift >= 0; shift -= 8) {
            int c = byteAt(w, shift);
            if (c != 0 && length < MAX_TEXT) {
                row[length] = (char) c;
                length++;
            }
        }
    }

    private static void checkLetter(int letter) {
        if (letter < 0 || letter >= LETTER_COUNT) {
            throw new IllegalArgumentException();
        }
    }

    private void checkState(int s) {
        if (s < 0 || s >= machine.states) {
            throw new NoSuchElementException();
        }
    }

    /** A machine has at least its beginning, so one without states was never compiled. */
    private void checkCompiled() {
        if (machine.states == 0) {
            throw new IllegalStateException();
        }
    }

    private void checkGoing() {
        checkCompiled();
        if (walk.ended) {
            throw new IllegalStateException();
        }
    }

    /** What is known of an expression, term or factor; sets of positions are bits. */
    private static final class Part {
        /** Its positions are those from here on, as long as it is the latest that was read. */
        private int from;
        private int first;
        private int last;
        private boolean empty;
        /** None while the part is not empty. */
        private int nothing;

        void becomePosition(int p) {
            from = p;
            first = 1 << p;
            last = 1 << p;
            empty = false;
            nothing = 0;
        }

        void become(Part other) {
            from = other.from;
            first = other.first;
            last = other.last;
            empty = other.empty;
            nothing = other.nothing;
        }
    }

    /**
     * The positions and the steps between them. A position is first (or last) in a part with one set of
     * actions, and is in no other part that is still to be put together, so that one row holds these sets.
     */
    private static final class Net {
        private int positions;
        private final int[] withLetter = new int[LETTER_COUNT];
        private final int[] firstActions = new int[MAX_POSITIONS];
        private final int[] lastActions = new int[MAX_POSITIONS];
        private final int[] steps = new int[MAX_POSITIONS];
        private final int[] stepActions = new int[MAX_POSITIONS * MAX_POSITIONS];

        void restart() {
            positions = 0;
            Arrays.fill(withLetter, 0);
        }

        boolean isFull() {
            return positions >= MAX_POSITIONS;
        }

        /** Only while it is not full. */
        void addPosition(int letters, Part part) {
            int p = positions;
            for (int letter = 0; letter < LETTER_COUNT; letter++) {
                if ((letters >> letter & 1) != 0) {
                    withLetter[letter] |= 1 << p;
                }
            }
            firstActions[p] = 0;
            lastActions[p] = 0;
            steps[p] = 0;
            Arrays.fill(stepActions, p * MAX_POSITIONS, (p + 1) * MAX_POSITIONS, 0);
            part.becomePosition(p);
            positions++;
        }

        void either(Part e, Part f) {
            e.first |= f.first;
            e.last |= f.last;
            e.empty = e.empty || f.empty;
            e.nothing |= f.nothing;
        }

        /** The steps come first: they go with the actions that both had by themselves. */
        void chain(Part e, Part f) {
            link(e.last, f.first);
            if (e.empty) {
                give(firstActions, f.first, e.nothing);
                e.first |= f.first;
            }
            if (f.empty) {
                give(lastActions, e.last, f.nothing);
                e.last |= f.last;
            } else {
                e.last = f.last;
            }
            e.empty = e.empty && f.empty;
            e.nothing = e.empty ? e.nothing | f.nothing : 0;
        }

        /** For * + and ?. */
        void repeat(Part e, char sign) {
            if (sign != '?') {
                link(e.last, e.first);
            }
            if (sign != '+') {
                e.empty = true;
            }
        }

        /** For > @ $ and %. */
        void act(Part e, char sign, int action) {
            int bit = 1 << action;
            if (sign == '>') {
                give(firstActions, e.first, bit);
            } else if (sign == '@') {
                give(firstActions, e.first & e.last, bit);
                giveSteps(e.from, e.last, bit);
            } else if (sign == '$') {
                give(firstActions, e.first, bit);
                giveSteps(e.from, ALL_POSITIONS, bit);
            } else {
                give(lastActions, e.last, bit);
                e.nothing |= e.empty ? bit : 0;
            }
        }

        int actionsOfFirst(int targets) {
            return together(firstActions, 0, targets);
        }

        int actionsOfLast(int targets) {
            return together(lastActions, 0, targets);
        }

        int actionsOfSteps(int x, int targets) {
            return together(stepActions, x * MAX_POSITIONS, targets);
        }

        private void link(int lasts, int firsts) {
            for (int x = 0; x < positions; x++) {
                int reached = (lasts >> x & 1) != 0 ? firsts : 0;
                steps[x] |= reached;
                for (int y = 0; y < positions; y++) {
                    if ((reached >> y & 1) != 0) {
                        stepActions[x * MAX_POSITIONS + y] |= lastActions[x] | firstActions[y];
                    }
                }
            }
        }

        private void give(int[] actionSets, int members, int more) {
            for (int p = 0; p < positions; p++) {
                if ((members >> p & 1) != 0) {
                    actionSets[p] |= more;
                }
            }
        }

        private void giveSteps(int from, int targets, int bit) {
            for (int x = from; x < positions; x++) {
                int reached = steps[x] & targets;
                for (int y = from; y < positions; y++) {
                    if ((reached >> y & 1) != 0) {
                        stepActions[x * MAX_POSITIONS + y] |= bit;
                    }
                }
            }
        }

        private int together(int[] actionSets, int start, int members) {
            int all = 0;
            for (int p = 0; p < positions; p++) {
                if ((members >> p & 1) != 0) {
                    all |= actionSets[start + p];
                }
            }
            return all;
        }
    }

    /**
     * Reads a text from left to right and puts the net together on the way. It never looks behind the
     * character at hand, so the place where it stops is the one with which no expression goes on.
     */
    private static final class Parser {
        private final Net net = new Net();
        /** One part of each kind for each depth: what lies deeper never touches those above. */
        private final Part[] expressions = new Part[MAX_DEPTH + 1];
        private final Part[] terms = new Part[MAX_DEPTH + 1];
        private final Part[] factors = new Part[MAX_DEPTH + 1];
        private char[] row;
        private int length;
        private int at;

        Parser() {
            row = new char[0];
            for (int depth = 0; depth <= MAX_DEPTH; depth++) {
                expressions[depth] = new Part();
                terms[depth] = new Part();
                factors[depth] = new Part();
            }
        }

        boolean parse(char[] characters, int howMany) {
            row = characters;
            length = Math.min(howMany, characters.length);
            at = 0;
            net.restart();
            return readExpression(0) && next() == NO_CHARACTER;
        }

        int place() {
            return at;
        }

        Part whole() {
            return expressions[0];
        }

        private boolean readExpression(int depth) {
            if (depth > MAX_DEPTH || !readTerm(depth)) {
                return false;
            }
            expressions[depth].become(terms[depth]);
            for (int more = 0; more < MAX_TEXT && next() == '|'; more++) {
                at++;
                if (!readTerm(depth)) {
                    return false;
                }
                net.either(expressions[depth], terms[depth]);
            }
            return true;
        }

        private boolean readTerm(int depth) {
            if (!readFactor(depth)) {
                return false;
            }
            terms[depth].become(factors[depth]);
            for (int more = 0; more < MAX_TEXT && beginsAtom(next()); more++) {
                if (!readFactor(depth)) {
                    return false;
                }
                net.chain(terms[depth], factors[depth]);
            }
            return true;
        }

        private boolean readFactor(int depth) {
            if (!readAtom(depth)) {
                return false;
            }
            for (int more = 0; more < MAX_TEXT && isSign(next()); more++) {
                char sign = here();
                at++;
                if (isRepeat(sign)) {
                    net.repeat(factors[depth], sign);
                } else if (!readAction(factors[depth], sign)) {
                    return false;
                }
            }
            return true;
        }

        private boolean readAction(Part factor, char sign) {
            char digit = here();
            if (digit < '0' || digit > '9') {
                return false;
            }
            at++;
            net.act(factor, sign, digit - '0');
            return true;
        }

        private boolean readAtom(int depth) {
            char c = next();
            if (c == '(') {
                return readGroup(depth);
            }
            if (!beginsAtom(c) || net.isFull()) {
                return false;
            }
            at++;
            int letters = c == '.' ? ALL_LETTERS : c == '[' ? readLetters() : letterBit(c);
            if (letters == 0) {
                return false;
            }
            net.addPosition(letters, factors[depth]);
            return true;
        }

        private boolean readGroup(int depth) {
            if (depth >= MAX_DEPTH) {
                return false;
            }
            at++;
            if (!readExpression(depth + 1) || next() != ')') {
                return false;
            }
            at++;
            factors[depth].become(expressions[depth + 1]);
            return true;
        }

        /** The letters up to the ] as bits; 0 if it stops at a character that can't stand there. */
        private int readLetters() {
            int letters = 0;
            while (at < length && isLetter(row[at])) {
                letters |= letterBit(row[at]);
                at++;
            }
            if (letters == 0 || here() != ']') {
                return 0;
            }
            at++;
            return letters;
        }

        private char here() {
            return at < length ? row[at] : NO_CHARACTER;
        }

        /** The character at hand where blanks may stand before it. */
        private char next() {
            while (at < length && row[at] == ' ') {
                at++;
            }
            return at < length ? row[at] : NO_CHARACTER;
        }

        private static boolean isLetter(char c) {
            return c >= 'a' && c <= 'd';
        }

        private static int letterBit(char c) {
            return 1 << (c - 'a');
        }

        private static boolean beginsAtom(char c) {
            return isLetter(c) || c == '.' || c == '[' || c == '(';
        }

        private static boolean isRepeat(char c) {
            return c == '*' || c == '+' || c == '?';
        }

        private static boolean isSign(char c) {
            return isRepeat(c) || c == '>' || c == '@' || c == '$' || c == '%';
        }
    }

    /** The states with their ways and classes; none at all before the first build. */
    private static final class Machine {
        private int states;
        private int positions;
        private int classCount;
        private final int[] sets = new int[MAX_STATES];
        private final int[] ways = new int[MAX_STATES * LETTER_COUNT];
        private final int[] wayActions = new int[MAX_STATES * LETTER_COUNT];
        private final boolean[] finals = new boolean[MAX_STATES];
        private final int[] endActions = new int[MAX_STATES];
        private final int[] classes = new int[MAX_STATES];
        private final int[] finer = new int[MAX_STATES];

        /** False if there would be too many states; the machine is of no use then. */
        boolean build(Net net, Part whole) {
            positions = net.positions;
            sets[0] = 0;
            states = 1;
            for (int s = 0; s < states && s < MAX_STATES; s++) {
                for (int letter = 0; letter < LETTER_COUNT; letter++) {
                    if (!findWay(net, whole, s, letter)) {
                        return false;
                    }
                }
                findEnd(net, whole, s);
            }
            findClasses();
            return true;
        }

        int target(int s, int letter) {
            return ways[s * LETTER_COUNT + letter];
        }

        int actionsOnWay(int s, int letter) {
            return wayActions[s * LETTER_COUNT + letter];
        }

        private boolean findWay(Net net, Part whole, int s, int letter) {
            int targets = 0;
            int due = 0;
            if (s == 0) {
                targets = whole.first & net.withLetter[letter];
                due = net.actionsOfFirst(targets);
            }
            for (int x = 0; x < positions; x++) {
                if ((sets[s] >> x & 1) != 0) {
                    int reached = net.steps[x] & net.withLetter[letter];
                    targets |= reached;
                    due |= net.actionsOfSteps(x, reached);
                }
            }
            int to = targets == 0 ? NO_WAY : indexOf(targets);
            if (to >= MAX_STATES) {
                return false;
            }
            ways[s * LETTER_COUNT + letter] = to;
            wayActions[s * LETTER_COUNT + letter] = due;
            return true;
        }

        /** The state with this set, which is a new one if there was none; MAX_STATES if that is too many. */
        private int indexOf(int set) {
            for (int s = 1; s < states; s++) {
                if (sets[s] == set) {
                    return s;
                }
            }
            if (states >= MAX_STATES) {
                return MAX_STATES;
            }
            sets[states] = set;
            states++;
            return states - 1;
        }

        private void findEnd(Net net, Part whole, int s) {
            int lasts = sets[s] & whole.last;
            finals[s] = s == 0 ? whole.empty : lasts != 0;
            endActions[s] = s == 0 ? whole.nothing : net.actionsOfLast(lasts);
        }

        /** All are taken for alike until a round tells them apart; each such round makes a class more. */
        private void findClasses() {
            Arrays.fill(classes, 0);
            boolean changed = true;
            for (int round = 0; round < MAX_STATES && changed; round++) {
                changed = refine();
            }
            classCount = 0;
            for (int s = 0; s < states; s++) {
                if (classes[s] == s) {
                    classCount++;
                }
            }
        }

        private boolean refine() {
            boolean changed = false;
            for (int s = 0; s < states; s++) {
                finer[s] = leastAlike(s);
                changed = changed || finer[s] != classes[s];
            }
            System.arraycopy(finer, 0, classes, 0, states);
            return changed;
        }

        private int leastAlike(int s) {
            for (int t = 0; t < s; t++) {
                if (finer[t] == t && looksLike(s, t)) {
                    return t;
                }
            }
            return s;
        }

        private boolean looksLike(int s, int t) {
            boolean same = classes[s] == classes[t] && finals[s] == finals[t] && endActions[s] == endActions[t];
            for (int letter = 0; letter < LETTER_COUNT && same; letter++) {
                same = actionsOnWay(s, letter) == actionsOnWay(t, letter)
                        && classBehind(s, letter) == classBehind(t, letter);
            }
            return same;
        }

        private int classBehind(int s, int letter) {
            int to = target(s, letter);
            return to == NO_WAY ? NO_WAY : classes[to];
        }
    }

    /** Where the machine is, and what was done on the way there. */
    private static final class Walk {
        private int at;
        private boolean ended;
        private int fed;
        private final int[] done = new int[ACTION_COUNT];

        void restart(int s) {
            at = s;
            ended = false;
            fed = 0;
            Arrays.fill(done, 0);
        }

        void goOn(int to, int due) {
            at = to;
            fed++;
            perform(due);
        }

        void finish(int due) {
            ended = true;
            perform(due);
        }

        private void perform(int due) {
            for (int action = 0; action < ACTION_COUNT; action++) {
                if ((due >> action & 1) != 0) {
                    done[action]++;
                }
            }
        }
    }
}
