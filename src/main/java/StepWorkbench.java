import java.util.Arrays;
import java.util.NoSuchElementException;

/** Small processes, their states and moves, their likeness, and formulas asked of them. */
public final class StepWorkbench {
    private static final int NONE = -1;
    private static final int LINE_LIMIT = 20;
    private static final int NAME_COUNT = 4;
    private static final int BRACKET_LIMIT = 4;

    private static final int INNER = 0;
    private static final int LETTER_COUNT = 4;
    private static final int ACTION_COUNT = 9;
    private static final int ANY_ACTION = 9;
    private static final int ACTION_COLUMNS = 10;

    private static final int STATE_LIMIT = 20;
    private static final int SIZE_LIMIT = 16;
    private static final int MOVE_LIMIT = 8;

    private final Text line;
    private final Terms terms;
    private final TermReader termReader;
    private final Definitions definitions;
    private final Explorer explorer;
    private final Graph graph;
    private final Likeness openLikeness;
    private final Likeness weakLikeness;
    private final FormulaReader formulaReader;
    private Formula accepted;
    private Formula draft;
    private boolean formulaGiven;
    private boolean havingKnown;
    private int having;

    public StepWorkbench() {
        line = new Text();
        terms = new Terms();
        termReader = new TermReader(terms);
        definitions = new Definitions();
        explorer = new Explorer(terms, termReader, definitions);
        graph = new Graph();
        openLikeness = new Likeness(false);
        weakLikeness = new Likeness(true);
        formulaReader = new FormulaReader();
        accepted = new Formula();
        draft = new Formula();
    }

    public boolean type(int four) throws IllegalArgumentException {
        int typed = 0;
        for (int i = 0; i < 4 && byteOf(four, i) != 0; i++) {
            if (byteOf(four, i) < 32 || byteOf(four, i) > 126) {
                throw new IllegalArgumentException("not a character that can be typed");
            }
            typed++;
        }
        if (line.length + typed > LINE_LIMIT) {
            return false;
        }
        for (int i = 0; i < typed; i++) {
            line.put(byteOf(four, i));
        }
        return true;
    }

    public int define() throws IllegalArgumentException {
        terms.clear();
        line.readFrom(0);
        int name = line.readName();
        boolean begun = name != NONE && line.eat('=');
        int term = begun ? termReader.read(line) : NONE;
        if (term != NONE) {
            definitions.accept(name, line, terms, term);
        }
        line.clear();
        if (term == NONE) {
            throw new IllegalArgumentException("the line defines no name");
        }
        return name;
    }

    public int formula() throws IllegalArgumentException {
        boolean read = formulaReader.read(line, draft);
        line.clear();
        if (!read) {
            throw new IllegalArgumentException("the line is no formula");
        }
        Formula former = accepted;
        accepted = draft;
        draft = former;
        formulaGiven = true;
        havingKnown = false;
        return accepted.count;
    }

    public int check(int name) throws IndexOutOfBoundsException {
        if (!isName(name)) {
            throw new IndexOutOfBoundsException("no such name");
        }
        return definitions.verdict(name);
    }

    public int load(int first, int second)
            throws IndexOutOfBoundsException, IllegalArgumentException, IllegalStateException {
        if (!isName(first) || !isName(second)) {
            throw new IndexOutOfBoundsException("no such name");
        }
        if (definitions.verdict(first) != 0 || definitions.verdict(second) != 0) {
            throw new IllegalArgumentException("a name that cannot be loaded");
        }
        explorer.begin();
        if (!explorer.follow(first) || !explorer.follow(second)) {
            throw new IllegalStateException("too large");
        }
        graph.take(explorer);
        openLikeness.forget();
        weakLikeness.forget();
        havingKnown = false;
        return graph.count;
    }

    public int states() {
        return graph.count;
    }

    public int second() throws NoSuchElementException {
        if (graph.count == 0) {
            throw new NoSuchElementException("nothing is loaded");
        }
        return graph.secondState;
    }

    public int moves(int s) throws NoSuchElementException {
        needState(s);
        return graph.moveCount[s];
    }

    public int move(int s, int k, int what) throws NoSuchElementException {
        needState(s);
        if (k < 0 || k >= graph.moveCount[s] || what < 0 || what > 1) {
            throw new NoSuchElementException("no such move");
        }
        int at = s * MOVE_LIMIT + k;
        return what == 0 ? graph.actions[at] : graph.targets[at];
    }

    public int size(int s) throws NoSuchElementException {
        needState(s);
        return graph.sizes[s];
    }

    public int level(int s, int u, boolean weakly) throws NoSuchElementException {
        needState(s);
        needState(u);
        return likeness(weakly).partingLevel(s, u);
    }

    public int tells(int s, int u, boolean weakly) throws NoSuchElementException {
        needState(s);
        needState(u);
        Likeness likeness = likeness(weakly);
        if (likeness.partingLevel(s, u) == 0) {
            throw new NoSuchElementException("the states are alike");
        }
        return likeness.partingAction(s, u);
    }

    public int leader(int s, boolean weakly) throws NoSuchElementException {
        needState(s);
        return likeness(weakly).leastAlike(s);
    }

    public int classes(boolean weakly) {
        return likeness(weakly).classCount();
    }

    public int stuck() {
        return graph.movesToStop();
    }

    public boolean holds(int s) throws IllegalStateException, NoSuchElementException {
        needFormula();
        needState(s);
        if (!havingKnown) {
            having = accepted.statesHaving(graph);
            havingKnown = true;
        }
        return contains(having, s);
    }

    public int pairs(int s) throws IllegalStateException, NoSuchElementException {
        needFormula();
        needState(s);
        return accepted.countReached(graph, s);
    }

    private void needState(int s) {
        if (s < 0 || s >= graph.count) {
            throw new NoSuchElementException("no such state");
        }
    }

    private void needFormula() {
        if (!formulaGiven) {
            throw new IllegalStateException("there is no formula");
        }
    }

    private Likeness likeness(boolean weakly) {
        Likeness likeness = weakly ? weakLikeness : openLikeness;
        likeness.workOut(graph);
        return likeness;
    }

    private static boolean isName(int name) {
        return name >= 0 && name < NAME_COUNT;
    }

    private static int byteOf(int four, int i) {
        return (four >>> (8 * i)) & 255;
    }

    private static boolean contains(int set, int member) {
        return (set & (1 << member)) != 0;
    }

    /** Character codes in a row, and the place up to which they have been read. */
    private static final class Text {
        final int[] codes = new int[LINE_LIMIT];
        int length;
        private int at;

        void put(int code) {
            if (length < LINE_LIMIT) {
                codes[length] = code;
                length++;
            }
        }

        void clear() {
            length = 0;
        }

        void copy(Text other) {
            System.arraycopy(other.codes, 0, codes, 0, LINE_LIMIT);
            length = other.length;
        }

        void readFrom(int place) {
            at = place;
        }

        boolean ended() {
            return at >= length;
        }

        int next() {
            return at < length ? codes[at] : NONE;
        }

        boolean eat(char code) {
            if (next() != code) {
                return false;
            }
            at++;
            return true;
        }

        /** How far the next character lies behind the first of a run of them, from 0; NONE when it is none of them. */
        int readOneOf(char first, int howMany) {
            int offset = at < length ? codes[at] - first : NONE;
            if (offset < 0 || offset >= howMany) {
                return NONE;
            }
            at++;
            return offset;
        }

        int readName() {
            return readOneOf('A', NAME_COUNT);
        }

        int readLetter() {
            int offset = readOneOf('a', LETTER_COUNT);
            return offset == NONE ? NONE : offset + 1;
        }

        boolean actionIsNext() {
            int code = next();
            return code == 't' || code == '\'' || (code >= 'a' && code < 'a' + LETTER_COUNT);
        }

        int readAction() {
            if (eat('t')) {
                return INNER;
            }
            boolean barred = eat('\'');
            int letter = readLetter();
            return barred && letter != NONE ? letter + LETTER_COUNT : letter;
        }
    }

    /** Terms built once each, so that the same terms have the same number, and parts have lower ones than the whole. */
    private static final class Terms {
        // The order matters: from HIDE on the left part's moves make the term's, from SUM on the right part's too.
        static final int NIL = 0;
        static final int NAME = 1;
        static final int STEP = 2;
        static final int HIDE = 3;
        static final int RENAME = 4;
        static final int SUM = 5;
        static final int PAIR = 6;

        private static final int FIRST_ROOM = 64;
        // 20 states of 16 parts and 4 definitions of 18 have under 400 parts, each with 9 terms made for its moves.
        private static final int ROOM_LIMIT = 4096;
        private static final int BUCKETS = 64;

        int[] kind = new int[FIRST_ROOM];
        int[] left = new int[FIRST_ROOM];
        int[] right = new int[FIRST_ROOM];
        int[] sizes = new int[FIRST_ROOM];
        int[] firstMove = new int[FIRST_ROOM];
        int[] behindMoves = new int[FIRST_ROOM];
        private int[] olderInBucket = new int[FIRST_ROOM];
        private final int[] newestInBucket = new int[BUCKETS];
        private int count;

        void clear() {
            count = 0;
            Arrays.fill(newestInBucket, NONE);
        }

        /** NONE for a part that is NONE, so that readers need not look at each part first. */
        int make(int ofKind, int leftPart, int rightPart) {
            if (leftPart == NONE || rightPart == NONE) {
                return NONE;
            }
            int bucket = ((ofKind * 31 + leftPart) * 31 + rightPart) & (BUCKETS - 1);
            int term = newestInBucket[bucket];
            for (int i = 0; i < count && term != NONE; i++) {
                if (kind[term] == ofKind && left[term] == leftPart && right[term] == rightPart) {
                    return term;
                }
                term = olderInBucket[term];
            }
            if (!hasRoom()) {
                return NONE;
            }
            term = count;
            count++;
            kind[term] = ofKind;
            left[term] = leftPart;
            right[term] = rightPart;
            sizes[term] = 1 + (ofKind >= STEP ? sizes[leftPart] : 0) + (ofKind >= SUM ? sizes[rightPart] : 0);
            firstMove[term] = NONE;
            olderInBucket[term] = newestInBucket[bucket];
            newestInBucket[bucket] = term;
            return term;
        }

        private boolean hasRoom() {
            int room = kind.length;
            if (count < room) {
                return true;
            }
            if (room >= ROOM_LIMIT) {
                return false;
            }
            kind = Arrays.copyOf(kind, room * 2);
            left = Arrays.copyOf(left, room * 2);
            right = Arrays.copyOf(right, room * 2);
            sizes = Arrays.copyOf(sizes, room * 2);
            firstMove = Arrays.copyOf(firstMove, room * 2);
            behindMoves = Arrays.copyOf(behindMoves, room * 2);
            olderInBucket = Arrays.copyOf(olderInBucket, room * 2);
            return true;
        }
    }

    /** Reads a sum; every method answers NONE when the text does not go on as it should. */
    private static final class TermReader {
        private final Terms terms;
        private final int[] waiting = new int[LINE_LIMIT];
        private int waitingCount;
        private Text text;

        TermReader(Terms terms) {
            this.terms = terms;
        }

        int read(Text source) {
            text = source;
            waitingCount = 0;
            int term = readSum(0);
            return text.ended() ? term : NONE;
        }

        private int readSum(int depth) {
            int term = readRow(depth);
            for (int i = 0; i < LINE_LIMIT && term != NONE && text.eat('+'); i++) {
                term = terms.make(Terms.SUM, term, readRow(depth));
            }
            return term;
        }

        private int readRow(int depth) {
            int term = readStep(depth);
            for (int i = 0; i < LINE_LIMIT && term != NONE && text.eat('|'); i++) {
                term = terms.make(Terms.PAIR, term, readStep(depth));
            }
            return term;
        }

        private int readStep(int depth) {
            int before = waitingCount;
            for (int i = waitingCount; i < LINE_LIMIT && text.actionIsNext(); i++) {
                int action = text.readAction();
                if (action == NONE || !text.eat('.')) {
                    return NONE;
                }
                waiting[i] = action;
                waitingCount = i + 1;
            }
            int term = readPiece(depth);
            while (waitingCount > before) {
                waitingCount--;
                term = terms.make(Terms.STEP, term, waiting[waitingCount]);
            }
            return term;
        }

        private int readPiece(int depth) {
            int term = readAtom(depth);
            for (int i = 0; i < LINE_LIMIT && term != NONE; i++) {
                if (text.eat('\\')) {
                    term = terms.make(Terms.HIDE, term, text.readLetter());
                } else if (text.eat('[')) {
                    term = terms.make(Terms.RENAME, term, readRenaming());
                } else {
                    return term;
                }
            }
            return term;
        }

        private int readRenaming() {
            int to = text.readLetter();
            if (to == NONE || !text.eat('/')) {
                return NONE;
            }
            int from = text.readLetter();
            if (from == NONE || !text.eat(']')) {
                return NONE;
            }
            return renaming(from, to);
        }

        private int readAtom(int depth) {
            if (text.eat('0')) {
                return terms.make(Terms.NIL, 0, 0);
            }
            if (text.eat('(')) {
                int term = depth < BRACKET_LIMIT ? readSum(depth + 1) : NONE;
                return text.eat(')') ? term : NONE;
            }
            return terms.make(Terms.NAME, 0, text.readName());
        }

        static int renaming(int from, int to) {
            return from << 3 | to;
        }

        static int renamedFrom(int renaming) {
            return renaming >> 3;
        }

        static int renamedTo(int renaming) {
            return renaming & 7;
        }
    }

    /** The definitions as they were typed, and for each the sets of names that stand in it. */
    private static final class Definitions {
        private static final int BEHIND_EQUALS = 2;

        private final Text[] texts = new Text[NAME_COUNT];
        private final int[] standing = new int[NAME_COUNT];
        private final int[] standingOpen = new int[NAME_COUNT];
        private final int[] standingWithin = new int[NAME_COUNT];
        private int defined;

        Definitions() {
            for (int name = 0; name < NAME_COUNT; name++) {
                texts[name] = new Text();
            }
        }

        void accept(int name, Text text, Terms terms, int term) {
            texts[name].copy(text);
            defined |= 1 << name;
            standing[name] = 0;
            standingOpen[name] = 0;
            standingWithin[name] = 0;
            gather(name, terms, term, true, false, 0);
        }

        boolean has(int name) {
            return contains(defined, name);
        }

        /** The text to be read again, as the terms of an earlier reading are gone. */
        Text textOf(int name) {
            texts[name].readFrom(BEHIND_EQUALS);
            return texts[name];
        }

        int verdict(int name) {
            int needed = used(standing, name) | 1 << name;
            if ((needed & ~defined) != 0) {
                return 1;
            }
            for (int n = 0; n < NAME_COUNT; n++) {
                if (contains(needed, n) && contains(used(standingOpen, n), n)) {
                    return 2;
                }
            }
            for (int n = 0; n < NAME_COUNT; n++) {
                if (contains(needed, n) && returnsWithin(n)) {
                    return 3;
                }
            }
            return 0;
        }

        private boolean returnsWithin(int name) {
            for (int n = 0; n < NAME_COUNT; n++) {
                if (contains(standingWithin[name], n) && contains(used(standing, n) | 1 << n, name)) {
                    return true;
                }
            }
            return false;
        }

        private static int used(int[] directly, int name) {
            int used = directly[name];
            for (int round = 0; round < NAME_COUNT; round++) {
                for (int n = 0; n < NAME_COUNT; n++) {
                    used |= contains(used, n) ? directly[n] : 0;
                }
            }
            return used;
        }

        private void gather(int name, Terms terms, int term, boolean open, boolean within, int depth) {
            int kind = terms.kind[term];
            if (depth > LINE_LIMIT || kind == Terms.NIL) {
                return;
            }
            if (kind == Terms.NAME) {
                int found = 1 << terms.right[term];
                standing[name] |= found;
                standingOpen[name] |= open ? found : 0;
                standingWithin[name] |= within ? found : 0;
                return;
            }
            boolean partOpen = open && kind != Terms.STEP;
            boolean partWithin = within || kind == Terms.PAIR || kind == Terms.HIDE || kind == Terms.RENAME;
            gather(name, terms, terms.left[term], partOpen, partWithin, depth + 1);
            if (kind >= Terms.SUM) {
                gather(name, terms, terms.right[term], partOpen, partWithin, depth + 1);
            }
        }
    }

    /** Works out the moves of terms, of each term once; false answers mean that a limit was passed. */
    private static final class Mover {
        private static final int FIRST_ROOM = 64;
        // Under 400 parts of states and definitions, each with at most 8 moves.
        private static final int ROOM_LIMIT = 4096;
        // A state is at most 16 deep, and each of 4 names leads on into a definition at most 10 deep.
        private static final int DEPTH_LIMIT = 64;

        private final Terms terms;
        private final int[] bodies = new int[NAME_COUNT];
        int[] actions = new int[FIRST_ROOM];
        int[] targets = new int[FIRST_ROOM];
        private int count;

        Mover(Terms terms) {
            this.terms = terms;
        }

        void clear() {
            count = 0;
        }

        void setBody(int name, int term) {
            bodies[name] = term;
        }

        // Private, as all that calls itself here is; the Explorer comes to it, being inside the same class.
        private boolean workOut(int term, int depth) {
            if (terms.firstMove[term] != NONE) {
                return true;
            }
            if (depth > DEPTH_LIMIT) {
                return false;
            }
            int kind = terms.kind[term];
            if (kind == Terms.NAME) {
                int body = bodies[terms.right[term]];
                return body != NONE && workOut(body, depth + 1) && share(term, body);
            }
            if (kind >= Terms.HIDE && !workOut(terms.left[term], depth + 1)) {
                return false;
            }
            if (kind >= Terms.SUM && !workOut(terms.right[term], depth + 1)) {
                return false;
            }
            int first = count;
            if (!putMoves(term, first)) {
                return false;
            }
            terms.firstMove[term] = first;
            terms.behindMoves[term] = count;
            return true;
        }

        private boolean share(int name, int body) {
            terms.firstMove[name] = terms.firstMove[body];
            terms.behindMoves[name] = terms.behindMoves[body];
            return true;
        }

        private boolean putMoves(int term, int first) {
            int left = terms.left[term];
            int right = terms.right[term];
            switch (terms.kind[term]) {
                case Terms.STEP:
                    return put(first, right, left);
                case Terms.HIDE:
                    return putHidden(first, left, right);
                case Terms.RENAME:
                    return putRenamed(first, left, right);
                case Terms.SUM:
                    return putAll(first, left) && putAll(first, right);
                case Terms.PAIR:
                    return putLeft(first, left, right) && putRight(first, left, right)
                            && putTogether(first, left, right);
                default:
                    return true;
            }
        }

        private boolean putAll(int first, int part) {
            int behind = terms.behindMoves[part];
            boolean fits = true;
            for (int m = terms.firstMove[part]; m < behind && fits; m++) {
                fits = put(first, actions[m], targets[m]);
            }
            return fits;
        }

        private boolean putHidden(int first, int part, int letter) {
            int behind = terms.behindMoves[part];
            boolean fits = true;
            for (int m = terms.firstMove[part]; m < behind && fits; m++) {
                if (actions[m] != letter && actions[m] != opposite(letter)) {
                    fits = put(first, actions[m], terms.make(Terms.HIDE, targets[m], letter));
                }
            }
            return fits;
        }

        private boolean putRenamed(int first, int part, int renaming) {
            int from = TermReader.renamedFrom(renaming);
            int to = TermReader.renamedTo(renaming);
            int behind = terms.behindMoves[part];
            boolean fits = true;
            for (int m = terms.firstMove[part]; m < behind && fits; m++) {
                int action = actions[m];
                if (action == from) {
                    action = to;
                } else if (action == opposite(from)) {
                    action = opposite(to);
                }
                fits = put(first, action, terms.make(Terms.RENAME, targets[m], renaming));
            }
            return fits;
        }

        private boolean putLeft(int first, int left, int right) {
            int behind = terms.behindMoves[left];
            boolean fits = true;
            for (int m = terms.firstMove[left]; m < behind && fits; m++) {
                fits = put(first, actions[m], terms.make(Terms.PAIR, targets[m], right));
            }
            return fits;
        }

        private boolean putRight(int first, int left, int right) {
            int behind = terms.behindMoves[right];
            boolean fits = true;
            for (int m = terms.firstMove[right]; m < behind && fits; m++) {
                fits = put(first, actions[m], terms.make(Terms.PAIR, left, targets[m]));
            }
            return fits;
        }

        private boolean putTogether(int first, int left, int right) {
            int behindLeft = terms.behindMoves[left];
            int behindRight = terms.behindMoves[right];
            boolean fits = true;
            for (int m = terms.firstMove[left]; m < behindLeft && fits; m++) {
                for (int n = terms.firstMove[right]; n < behindRight && fits; n++) {
                    if (actions[m] != INNER && actions[n] == opposite(actions[m])) {
                        fits = put(first, INNER, terms.make(Terms.PAIR, targets[m], targets[n]));
                    }
                }
            }
            return fits;
        }

        private boolean put(int first, int action, int target) {
            for (int m = first; m < count; m++) {
                if (actions[m] == action && targets[m] == target) {
                    return true;
                }
            }
            if (target == NONE || count - first >= MOVE_LIMIT || !hasRoom()) {
                return false;
            }
            actions[count] = action;
            targets[count] = target;
            count++;
            return true;
        }

        private boolean hasRoom() {
            int room = actions.length;
            if (count < room) {
                return true;
            }
            if (room >= ROOM_LIMIT) {
                return false;
            }
            actions = Arrays.copyOf(actions, room * 2);
            targets = Arrays.copyOf(targets, room * 2);
            return true;
        }

        private static int opposite(int action) {
            return action <= LETTER_COUNT ? action + LETTER_COUNT : action - LETTER_COUNT;
        }
    }

    /** Finds the states of two names; apart from the graph, so that a loading that fails leaves the graph alone. */
    private static final class Explorer {
        final Terms terms;
        final Mover mover;
        private final TermReader reader;
        private final Definitions definitions;
        final int[] found = new int[STATE_LIMIT];
        int count;
        int lastNameState;
        private int goneThrough;

        Explorer(Terms terms, TermReader reader, Definitions definitions) {
            this.terms = terms;
            this.reader = reader;
            this.definitions = definitions;
            mover = new Mover(terms);
        }

        void begin() {
            terms.clear();
            mover.clear();
            count = 0;
            goneThrough = 0;
            for (int name = 0; name < NAME_COUNT; name++) {
                mover.setBody(name, definitions.has(name) ? reader.read(definitions.textOf(name)) : NONE);
            }
        }

        /** Takes a name and all that it leads to among the states; false when that is too large. */
        boolean follow(int name) {
            int term = terms.make(Terms.NAME, 0, name);
            if (!enter(term)) {
                return false;
            }
            lastNameState = stateOf(term);
            for (; goneThrough < count && goneThrough < STATE_LIMIT; goneThrough++) {
                int next = found[goneThrough];
                if (!mover.workOut(next, 0) || !enterTargets(next)) {
                    return false;
                }
            }
            return true;
        }

        int stateOf(int term) {
            for (int s = 0; s < count; s++) {
                if (found[s] == term) {
                    return s;
                }
            }
            return NONE;
        }

        private boolean enterTargets(int term) {
            for (int m = terms.firstMove[term]; m < terms.behindMoves[term]; m++) {
                if (!enter(mover.targets[m])) {
                    return false;
                }
            }
            return true;
        }

        private boolean enter(int term) {
            if (term == NONE) {
                return false;
            }
            if (stateOf(term) != NONE) {
                return true;
            }
            if (count >= STATE_LIMIT || terms.sizes[term] > SIZE_LIMIT) {
                return false;
            }
            found[count] = term;
            count++;
            return true;
        }
    }

    /** What is loaded; sets of states are numbers with a bit for each state. */
    private static final class Graph {
        final int[] sizes = new int[STATE_LIMIT];
        final int[] moveCount = new int[STATE_LIMIT];
        final int[] actions = new int[STATE_LIMIT * MOVE_LIMIT];
        final int[] targets = new int[STATE_LIMIT * MOVE_LIMIT];
        private final int[] after = new int[STATE_LIMIT * ACTION_COLUMNS];
        int count;
        int secondState;

        void take(Explorer explorer) {
            count = explorer.count;
            secondState = explorer.lastNameState;
            Arrays.fill(after, 0);
            for (int s = 0; s < count; s++) {
                takeState(explorer, s);
            }
        }

        private void takeState(Explorer explorer, int s) {
            int term = explorer.found[s];
            int first = explorer.terms.firstMove[term];
            sizes[s] = explorer.terms.sizes[term];
            moveCount[s] = explorer.terms.behindMoves[term] - first;
            for (int k = 0; k < moveCount[s]; k++) {
                int action = explorer.mover.actions[first + k];
                int target = explorer.stateOf(explorer.mover.targets[first + k]);
                actions[s * MOVE_LIMIT + k] = action;
                targets[s * MOVE_LIMIT + k] = target;
                after[s * ACTION_COLUMNS + action] |= 1 << target;
                after[s * ACTION_COLUMNS + ANY_ACTION] |= 1 << target;
            }
        }

        int everyState() {
            return (1 << count) - 1;
        }

        int statesAfter(int s, int action) {
            return after[s * ACTION_COLUMNS + action];
        }

        int statesAfterAll(int set, int action) {
            int behind = 0;
            for (int s = 0; s < count; s++) {
                behind |= contains(set, s) ? statesAfter(s, action) : 0;
            }
            return behind;
        }

        int withSomeMoveInto(int set, int action) {
            int having = 0;
            for (int s = 0; s < count; s++) {
                having |= (statesAfter(s, action) & set) != 0 ? 1 << s : 0;
            }
            return having;
        }

        int withEveryMoveInto(int set, int action) {
            return everyState() & ~withSomeMoveInto(~set, action);
        }

        int movesToStop() {
            int seen = 0;
            int edge = count > 0 ? 1 : 0;
            for (int distance = 0; distance < STATE_LIMIT && edge != 0; distance++) {
                if ((edge & ~withSomeMoveInto(everyState(), ANY_ACTION)) != 0) {
                    return distance;
                }
                seen |= edge;
                edge = statesAfterAll(edge, ANY_ACTION) & ~seen;
            }
            return NONE;
        }
    }

    /** At which level each two states part, and by which action, for moves or for weak moves. */
    private static final class Likeness {
        private final boolean weakly;
        private final int[] after = new int[STATE_LIMIT * ACTION_COUNT];
        private final int[] covered = new int[STATE_LIMIT * ACTION_COUNT];
        private final int[] inward = new int[STATE_LIMIT];
        private final int[] alike = new int[STATE_LIMIT];
        private final int[] levels = new int[STATE_LIMIT * STATE_LIMIT];
        private final int[] tellers = new int[STATE_LIMIT * STATE_LIMIT];
        private int count;
        private boolean known;

        Likeness(boolean weakly) {
            this.weakly = weakly;
        }

        void forget() {
            known = false;
        }

        int partingLevel(int s, int u) {
            return levels[s * STATE_LIMIT + u];
        }

        int partingAction(int s, int u) {
            return tellers[s * STATE_LIMIT + u];
        }

        int leastAlike(int s) {
            int least = 0;
            while (least < s && !contains(alike[s], least)) {
                least++;
            }
            return least;
        }

        int classCount() {
            int leaders = 0;
            for (int s = 0; s < count; s++) {
                leaders += leastAlike(s) == s ? 1 : 0;
            }
            return leaders;
        }

        void workOut(Graph graph) {
            if (known) {
                return;
            }
            known = true;
            count = graph.count;
            if (weakly) {
                takeWeakMoves(graph);
            } else {
                takeMoves(graph);
            }
            Arrays.fill(levels, 0);
            Arrays.fill(alike, graph.everyState());
            boolean parted = true;
            for (int level = 1; level <= STATE_LIMIT && parted; level++) {
                cover();
                parted = part(level);
            }
        }

        private void takeMoves(Graph graph) {
            for (int s = 0; s < count; s++) {
                for (int k = 0; k < ACTION_COUNT; k++) {
                    after[s * ACTION_COUNT + k] = graph.statesAfter(s, k);
                }
            }
        }

        private void takeWeakMoves(Graph graph) {
            for (int s = 0; s < count; s++) {
                inward[s] = closedInward(graph, 1 << s);
            }
            for (int s = 0; s < count; s++) {
                after[s * ACTION_COUNT + INNER] = inward[s];
                for (int k = INNER + 1; k < ACTION_COUNT; k++) {
                    after[s * ACTION_COUNT + k] = unitedInward(graph.statesAfterAll(inward[s], k));
                }
            }
        }

        private static int closedInward(Graph graph, int from) {
            int set = from;
            for (int round = 0; round < STATE_LIMIT; round++) {
                int larger = set | graph.statesAfterAll(set, INNER);
                if (larger == set) {
                    return set;
                }
                set = larger;
            }
            return set;
        }

        private int unitedInward(int set) {
            int united = 0;
            for (int s = 0; s < count; s++) {
                united |= contains(set, s) ? inward[s] : 0;
            }
            return united;
        }

        /** Being alike parts the states into classes, so two states' moves match when they touch the same classes. */
        private void cover() {
            for (int i = 0; i < count * ACTION_COUNT; i++) {
                int touched = 0;
                for (int s = 0; s < count; s++) {
                    touched |= contains(after[i], s) ? alike[s] : 0;
                }
                covered[i] = touched;
            }
        }

        private boolean part(int level) {
            boolean parted = false;
            for (int s = 0; s < count; s++) {
                for (int u = 0; u < s; u++) {
                    int action = contains(alike[s], u) ? firstUnmatched(s, u) : NONE;
                    if (action != NONE) {
                        note(s, u, level, action);
                        note(u, s, level, action);
                        parted = true;
                    }
                }
            }
            return parted;
        }

        private int firstUnmatched(int s, int u) {
            for (int k = 0; k < ACTION_COUNT; k++) {
                if (covered[s * ACTION_COUNT + k] != covered[u * ACTION_COUNT + k]) {
                    return k;
                }
            }
            return NONE;
        }

        private void note(int s, int u, int level, int action) {
            alike[s] &= ~(1 << u);
            levels[s * STATE_LIMIT + u] = level;
            tellers[s * STATE_LIMIT + u] = action;
        }
    }

    /** A formula's parts, each behind the parts that it is made of, the whole formula being the last. */
    private static final class Formula {
        static final int NEVER = 0;
        static final int ALWAYS = 1;
        static final int VARIABLE = 2;
        static final int EITHER = 3;
        static final int BOTH = 4;
        static final int SOME_MOVE = 5;
        static final int EVERY_MOVE = 6;
        static final int LEAST = 7;
        static final int GREATEST = 8;
        static final int VARIABLE_COUNT = 3;

        private final int[] kind = new int[LINE_LIMIT];
        private final int[] mark = new int[LINE_LIMIT];
        private final int[] left = new int[LINE_LIMIT];
        private final int[] right = new int[LINE_LIMIT];
        private final int[] reached = new int[LINE_LIMIT];
        private final int[] binder = new int[VARIABLE_COUNT];
        private final int[] holders = new int[VARIABLE_COUNT];
        int count;

        void clear() {
            count = 0;
        }

        /** The mark is a part's variable or action; NONE for a part that is NONE, as with terms. */
        int add(int ofKind, int withMark, int leftPart, int rightPart) {
            if (leftPart == NONE || rightPart == NONE || count >= LINE_LIMIT) {
                return NONE;
            }
            int part = count;
            count++;
            kind[part] = ofKind;
            mark[part] = withMark;
            left[part] = leftPart;
            right[part] = rightPart;
            if (ofKind == LEAST || ofKind == GREATEST) {
                binder[withMark] = part;
            }
            return part;
        }

        int statesHaving(Graph graph) {
            return count == 0 ? 0 : having(count - 1, graph, 0);
        }

        private int having(int part, Graph graph, int depth) {
            if (depth > LINE_LIMIT) {
                return 0;
            }
            switch (kind[part]) {
                case ALWAYS:
                    return graph.everyState();
                case VARIABLE:
                    return holders[mark[part]];
                case EITHER:
                    return having(left[part], graph, depth + 1) | having(right[part], graph, depth + 1);
                case BOTH:
                    return having(left[part], graph, depth + 1) & having(right[part], graph, depth + 1);
                case SOME_MOVE:
                    return graph.withSomeMoveInto(having(left[part], graph, depth + 1), mark[part]);
                case EVERY_MOVE:
                    return graph.withEveryMoveInto(having(left[part], graph, depth + 1), mark[part]);
                case LEAST:
                    return closing(part, 0, graph, depth);
                case GREATEST:
                    return closing(part, graph.everyState(), graph, depth);
                default:
                    return 0;
            }
        }

        /** Without negation each round goes the same way, so the sets change at most once for each state. */
        private int closing(int part, int start, Graph graph, int depth) {
            int set = start;
            for (int round = 0; round <= STATE_LIMIT; round++) {
                holders[mark[part]] = set;
                int next = having(left[part], graph, depth + 1);
                if (next == set) {
                    return set;
                }
                set = next;
            }
            return set;
        }

        int countReached(Graph graph, int s) {
            if (count == 0) {
                return 0;
            }
            Arrays.fill(reached, 0);
            reached[count - 1] = 1 << s;
            boolean grown = true;
            for (int round = 0; round < LINE_LIMIT * STATE_LIMIT && grown; round++) {
                grown = spread(graph);
            }
            int pairs = 0;
            for (int part = 0; part < count; part++) {
                pairs += Integer.bitCount(reached[part]);
            }
            return pairs;
        }

        /** True when a pair was added at a part that this pass had gone by: only variables lead back. */
        private boolean spread(Graph graph) {
            boolean grown = false;
            for (int part = count - 1; part >= 0; part--) {
                int set = reached[part];
                switch (kind[part]) {
                    case VARIABLE:
                        grown = grown || (set & ~reached[binder[mark[part]]]) != 0;
                        reached[binder[mark[part]]] |= set;
                        break;
                    case EITHER:
                    case BOTH:
                        reached[left[part]] |= set;
                        reached[right[part]] |= set;
                        break;
                    case SOME_MOVE:
                    case EVERY_MOVE:
                        reached[left[part]] |= graph.statesAfterAll(set, mark[part]);
                        break;
                    case LEAST:
                    case GREATEST:
                        reached[left[part]] |= set;
                        break;
                    default:
                        break;
                }
            }
            return grown;
        }
    }

    /** Reads a formula; every method answers NONE when the text does not go on as it should. */
    private static final class FormulaReader {
        private final int[] waitingKinds = new int[LINE_LIMIT];
        private final int[] waitingMarks = new int[LINE_LIMIT];
        private int waitingCount;
        private int bound;
        private int inForce;
        private Text text;
        private Formula formula;

        boolean read(Text source, Formula into) {
            text = source;
            text.readFrom(0);
            formula = into;
            formula.clear();
            waitingCount = 0;
            bound = 0;
            inForce = 0;
            return readWhole(0) != NONE && text.ended();
        }

        private int readWhole(int depth) {
            int before = waitingCount;
            for (int i = 0; i < LINE_LIMIT && (text.next() == 'm' || text.next() == 'n'); i++) {
                if (!readBinder()) {
                    return NONE;
                }
            }
            int part = readChoice(depth);
            for (int i = waitingCount; i > before; i--) {
                inForce &= ~(1 << waitingMarks[i - 1]);
                part = putLastBefore(part);
            }
            return part;
        }

        private boolean readBinder() {
            int kind = text.eat('m') ? Formula.LEAST : Formula.GREATEST;
            if (kind == Formula.GREATEST && !text.eat('n')) {
                return false;
            }
            int variable = text.readOneOf('x', Formula.VARIABLE_COUNT);
            if (variable == NONE || contains(bound, variable) || !text.eat('.')) {
                return false;
            }
            bound |= 1 << variable;
            inForce |= 1 << variable;
            return keepWaiting(kind, variable);
        }

        private int readChoice(int depth) {
            int part = readPair(depth);
            for (int i = 0; i < LINE_LIMIT && part != NONE && text.eat('|'); i++) {
                part = formula.add(Formula.EITHER, 0, part, readPair(depth));
            }
            return part;
        }

        private int readPair(int depth) {
            int part = readItem(depth);
            for (int i = 0; i < LINE_LIMIT && part != NONE && text.eat('&'); i++) {
                part = formula.add(Formula.BOTH, 0, part, readItem(depth));
            }
            return part;
        }

        private int readItem(int depth) {
            int before = waitingCount;
            for (int i = 0; i < LINE_LIMIT && (text.next() == '<' || text.next() == '['); i++) {
                if (!readModality()) {
                    return NONE;
                }
            }
            int part = readCore(depth);
            for (int i = waitingCount; i > before; i--) {
                part = putLastBefore(part);
            }
            return part;
        }

        private boolean readModality() {
            boolean some = text.eat('<');
            if (!some && !text.eat('[')) {
                return false;
            }
            int action = text.eat('*') ? ANY_ACTION : text.readAction();
            if (action == NONE || !text.eat(some ? '>' : ']')) {
                return false;
            }
            return keepWaiting(some ? Formula.SOME_MOVE : Formula.EVERY_MOVE, action);
        }

        private int readCore(int depth) {
            if (text.eat('0')) {
                return formula.add(Formula.NEVER, 0, 0, 0);
            }
            if (text.eat('1')) {
                return formula.add(Formula.ALWAYS, 0, 0, 0);
            }
            if (text.eat('(')) {
                int part = depth < BRACKET_LIMIT ? readWhole(depth + 1) : NONE;
                return text.eat(')') ? part : NONE;
            }
            int variable = text.readOneOf('x', Formula.VARIABLE_COUNT);
            if (variable == NONE || !contains(inForce, variable)) {
                return NONE;
            }
            return formula.add(Formula.VARIABLE, variable, 0, 0);
        }

        private boolean keepWaiting(int kind, int mark) {
            if (waitingCount >= LINE_LIMIT) {
                return false;
            }
            waitingKinds[waitingCount] = kind;
            waitingMarks[waitingCount] = mark;
            waitingCount++;
            return true;
        }

        private int putLastBefore(int part) {
            waitingCount--;
            return formula.add(waitingKinds[waitingCount], waitingMarks[waitingCount], part, 0);
        }
    }
}
