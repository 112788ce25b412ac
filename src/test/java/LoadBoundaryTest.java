/** The boundaries of checking, of moves, of loading and of what is loaded: promises 5 to 11. */
public final class LoadBoundaryTest {
    private static final String[] ACTIONS = {"t", "a", "b", "c", "d", "'a", "'b", "'c", "'d"};
    private static final String[] LETTERS = {"", "a", "b", "c", "d"};
    // Numbers beyond every limit, also such as come back within it when they are multiplied or shifted.
    private static final int[] FAR = {-1, 20, 31, 32, 33, 64, 256, 1 << 28, 1 << 29, 1 << 30, -(1 << 29),
            Integer.MAX_VALUE, Integer.MIN_VALUE, Integer.MIN_VALUE + 1};
    // Sixteen states on the way to C.
    private static final String[] LONG = {"A=a.a.a.a.a.a.a.a.B", "B=a.a.a.a.a.a.a.a.C"};
    // Seven moves before those of C.
    private static final String[] WIDE = {"A=a.0+b.0+c.0+d.0+B", "B='a.0+'b.0+'c.0+C"};
    private static final String NINTH = "C='d.0+t.0";

    public static void main(String[] args) {
        checkOfNumbers();
        checkNotDefined();
        checkUsedInEveryPlace();
        checkComesToItself();
        checkWithin();
        checkFirstOfThese();
        checkAfterDefiningAnew();
        movesOfSimpleTerms();
        movesSideBySide();
        movesHidden();
        movesRenamed();
        movesLeftOut();
        loadOfNumbers();
        loadNumbersStates();
        loadStates();
        loadStatesWithTheSecond();
        loadSizes();
        loadMoves();
        loadMovesOfParts();
        firstException();
        statesAndSecond();
        movesOfNoState();
        moveOfNoMove();
        sizeOfNoState();
        loadWithMuchBetween();
        lastOfManyCalls();
        Bench.finish();
    }

    private static String[] and(String[] some, String... more) {
        String[] all = new String[some.length + more.length];
        System.arraycopy(some, 0, all, 0, some.length);
        System.arraycopy(more, 0, all, some.length, more.length);
        return all;
    }

    /** What is due must not hang on which name is which, so each of the 24 ways to give the names is asked. */
    private static void checked(int want, int name, String... definitions) {
        for (int way = 0; way < 24; way++) {
            String names = namesIn(way);
            String[] renamed = new String[definitions.length];
            for (int i = 0; i < definitions.length; i++) {
                renamed[i] = renamed(definitions[i], names);
            }
            Bench.with(renamed).check(names.charAt(name) - 'A').due(want);
        }
    }

    private static String namesIn(int way) {
        StringBuilder left = new StringBuilder("ABCD");
        StringBuilder names = new StringBuilder();
        for (int rest = way, among = 4; among > 0; rest /= among, among--) {
            names.append(left.charAt(rest % among));
            left.deleteCharAt(rest % among);
        }
        return names.toString();
    }

    private static String renamed(String text, String names) {
        StringBuilder all = new StringBuilder();
        for (char c : text.toCharArray()) {
            all.append(c >= 'A' && c <= 'D' ? names.charAt(c - 'A') : c);
        }
        return all.toString();
    }

    private static void checkOfNumbers() {
        Bench.says("Promise 5: IndexOutOfBoundsException when name is not 0 .. 3.");
        Bench b = Bench.with("A=0", "D=0");
        b.check(-1).due(Bench.INDEX);
        b.check(0).due(0);
        b.check(1).due(1);
        b.check(2).due(1);
        b.check(3).due(0);
        b.check(4).due(Bench.INDEX);
        for (int far : FAR) {
            b.check(far).due(Bench.INDEX);
        }
    }

    private static void checkNotDefined() {
        Bench.says("Terms: 1 when it, or a name that it USES (that stands in its definition, or in that of one it uses)"
                + " is not defined");
        checked(1, 0);
        checked(1, 0, "B=0", "C=0", "D=0");
        checked(0, 0, "A=0");
        checked(1, 0, "A=a.B");
        checked(0, 0, "A=a.B", "B=0");
        checked(1, 0, "A=a.B", "B=b.C");
        checked(1, 0, "A=a.B", "B=b.C", "C=c.D");
        checked(0, 0, "A=a.B", "B=b.C", "C=c.D", "D=0");
        checked(1, 0, "A=a.D", "D=b.C", "C=c.B");
        checked(0, 0, "A=a.D", "D=b.C", "C=c.B", "B=b.D");
        checked(1, 0, "A=a.B+a.C", "B=0");
        checked(1, 0, "A=a.B+a.C", "C=0");
        checked(0, 0, "A=a.B+a.C", "B=0", "C=0");
        checked(0, 3, "D=d.C", "C=c.0", "B=b.A");
        checked(1, 1, "D=d.C", "C=c.0", "B=b.A");
    }

    private static void checkUsedInEveryPlace() {
        Bench.says("Terms: a name that it USES (that stands in its definition, or in that of one it uses)");
        for (String place : new String[] {"#", "(#)", "a.#", "'a.t.#", "0+#", "#+0", "0+#+0", "0|#", "#|0", "#\\a",
                "#[a/b]", "a.(0|b.#)\\a", "(a.0+#)[b/c]", "0|(0+(b.#))"}) {
            String a = "A=" + place.replace('#', 'B');
            checked(1, 0, a);
            checked(0, 0, a, "B=0");
            checked(2, 0, a, "B=B");
            checked(1, 0, a, "B=b.C");
        }
    }

    private static void checkComesToItself() {
        Bench.says("Terms: 2 when it or one that it uses comes to itself by names that stand in definitions otherwise"
                + " than in k.P");
        for (String place : new String[] {"#", "(#)", "0+#", "#+0", "0|#", "#|0", "#\\a", "#[a/b]", "a.#+#", "#|a.#",
                "(0+(#\\a))", "(a.#)\\a+#"}) {
            checked(2, 0, "A=" + place.replace('#', 'A'));
            checked(2, 0, "A=" + place.replace('#', 'B'), "B=A");
            checked(2, 1, "A=" + place.replace('#', 'B'), "B=A");
            checked(0, 0, "A=" + place.replace('#', 'B'), "B=0");
        }
        checked(0, 0, "A=a.A");
        checked(0, 0, "A=t.(A+0)");
        checked(0, 0, "A=a.A+b.A+0");
        checked(2, 0, "A=B", "B=C", "C=D", "D=A");
        checked(0, 0, "A=B", "B=C", "C=D", "D=d.A");
        checked(0, 0, "A=a.B", "B=C", "C=D", "D=A");
        checked(2, 0, "A=a.B", "B=C", "C=D", "D=B");
        checked(2, 0, "A=a.B", "B=b.C", "C=c.D", "D=D");
        checked(0, 0, "A=a.B", "B=b.C", "C=c.D", "D=d.D");
        checked(0, 0, "A=B", "B=0", "C=C");
        checked(2, 2, "A=B", "B=0", "C=C");
        checked(0, 0, "A=B+C+D", "B=C+D", "C=D", "D=0");
    }

    private static void checkWithin() {
        Bench.says("Terms: 3 when in its definition, or in that of one N that it uses, a name that is N or uses N stands"
                + " within P | Q, P \\ x or P[y/x]");
        for (String place : new String[] {"a.(#|0)", "a.(0|#)", "a.#\\a", "a.#[a/b]", "(a.#)\\b", "(a.#)[b/c]",
                "a.#|0", "0|a.#", "a.(0|b.#)", "a.(0+#)\\c", "a.(b.#)\\c", "0+a.(#|#)"}) {
            checked(3, 0, "A=" + place.replace('#', 'A'));
            checked(3, 0, "A=" + place.replace('#', 'B'), "B=b.A");
            checked(3, 1, "A=" + place.replace('#', 'B'), "B=b.A");
            checked(0, 0, "A=" + place.replace('#', 'B'), "B=b.B");
            checked(3, 0, "A=b.D", "D=" + place.replace('#', 'D'));
            checked(0, 1, "A=" + place.replace('#', 'A'), "B=b.B");
        }
        checked(0, 0, "A=a.A+(0|0)");
        checked(0, 0, "A=a.A+0\\a+0[a/b]");
        checked(0, 0, "A=a.(A+b.A)");
        for (int name = 0; name < 4; name++) {
            checked(3, name, "A=B|0", "B=b.C", "C=c.D", "D=d.A");
        }
        checked(0, 0, "A=B|0", "B=b.C", "C=c.D", "D=d.B");
        checked(0, 1, "A=B|0", "B=b.C", "C=c.D", "D=d.B");
        checked(3, 0, "A=a.B", "B=b.C", "C=c.D", "D=d.D\\a");
        checked(3, 0, "A=a.B", "B=b.C", "C=c.D\\a", "D=d.C");
        checked(0, 0, "A=a.B\\a", "B=b.C\\a", "C=c.D\\a", "D=d.D");
        Bench.says("Terms: For 3 the name checked is such an N, too.");
        checked(3, 0, "A=a.(A|0)");
        checked(3, 3, "D=a.D\\a");
    }

    private static void checkFirstOfThese() {
        Bench.says("Terms: 0 otherwise; the first of these");
        checked(1, 0, "A=A+B");
        checked(2, 0, "A=A+B", "B=0");
        checked(1, 0, "A=a.(A|B)");
        checked(3, 0, "A=a.(A|B)", "B=0");
        checked(2, 0, "A=a.(A|B)", "B=B");
        checked(2, 0, "A=A|a.A");
        checked(3, 0, "A=a.A|b.A");
        checked(1, 0, "A=A|a.A|C");
        checked(0, 0, "A=a.A+b.A");
    }

    private static void checkAfterDefiningAnew() {
        Bench.says("Promise 3: The line defines a name; Promise 5: Checking a name");
        Bench b = new Bench();
        String[] texts = {"A=a.(A|B)", "A=0", "A=A+B", "A=a.A", "A=B", "A=a.A\\a", "A=a.0", "A=A", "A=a.A[a/b]", "A=a.A"};
        int[] due = {1, 0, 1, 0, 1, 3, 0, 2, 3, 0};
        for (int i = 0; i < texts.length; i++) {
            b.define(texts[i]).due(0);
            b.check(0).due(due[i]);
            b.define("A=(").due(Bench.ARGUMENT);
            b.check(0).due(due[i]);
        }
    }

    private static void graph(String want, String... definitions) {
        Bench b = Bench.with(definitions);
        b.load(0, 0);
        b.shown().due(want);
    }

    private static void movesOfSimpleTerms() {
        Bench.says("Terms: MOVES of a term: of 0 none");
        graph(";", "A=0");
        Bench.says("Terms: of a name those of its definition");
        graph("2>1,1>2;;;", "A=B", "B=b.C+a.0", "C=0");
        graph("1>1;;", "A=B", "B=C", "C=D", "D=a.0");
        Bench.says("Terms: of k.P one, k to P");
        for (int k = 0; k < 9; k++) {
            graph(k + ">1;1>2;;", "A=" + ACTIONS[k] + ".a.0");
        }
        Bench.says("Terms: of P + Q those of P, then those of Q");
        graph("2>1,1>2;;;", "A=b.0+a.B", "B=0");
        graph("1>1,2>2;;;", "A=a.B+b.0", "B=0");
        graph("3>1,2>1,1>1;;", "A=c.0+(b.0+a.0)");
        graph("1>1;;", "A=0+a.0");
        graph("1>1;;", "A=a.0+0");
    }

    private static void movesSideBySide() {
        Bench.says("Terms: of P | Q: for each of P, k to R, k to R | Q; then for each of Q, k to S, k to P | S; then for"
                + " each of P that is not inner, k to R, and each of Q with the opposite of k, to S, in order: inner to"
                + " R | S");
        for (int p = 0; p < 9; p++) {
            for (int q = 0; q < 9; q++) {
                boolean opposite = p > 0 && q > 0 && (p == q + 4 || q == p + 4);
                graph(p + ">1," + q + ">2" + (opposite ? ",0>3" : "") + ";" + q + ">3;" + p + ">3;;",
                        "A=" + ACTIONS[p] + ".0|" + ACTIONS[q] + ".0");
            }
        }
        graph("1>1;;", "A=a.0|0");
        graph("1>1;;", "A=0|a.0");
        graph(";", "A=0|0");
        // In order: first by P's moves, then by Q's.
        Bench b = Bench.with("A=B|C", "B=a.0+b.D", "C='b.0+'a.D", "D=0");
        b.load(0, 0).due(9);
        b.moves(0).due(6);
        b.move(0, 4, 0).due(0);
        b.move(0, 4, 1).due(5);
        b.move(0, 5, 1).due(6);
        b.move(1, 1, 1).due(5);
    }

    private static void movesHidden() {
        Bench.says("Terms: of P \\ x those of P whose action is neither x nor 'x, k to R \\ x");
        for (int k = 0; k < 9; k++) {
            for (int x = 1; x <= 4; x++) {
                boolean shut = k == x || k == x + 4;
                graph(shut ? ";" : k + ">1;;", "A=(" + ACTIONS[k] + ".0)\\" + LETTERS[x]);
            }
        }
        Bench b = Bench.with("A=(a.b.a.0)\\b");
        b.load(0, 0).due(2);
        b.size(1).due(4);
        graph("3>1;2>2;;", "A=(c.b.a.0)\\a");
    }

    private static void movesRenamed() {
        Bench.says("Terms: of P[y/x] those of P, y for x and 'y for 'x, to R[y/x]");
        for (int k = 0; k < 9; k++) {
            for (int x = 1; x <= 4; x++) {
                for (int y = 1; y <= 4; y++) {
                    int want = k == x ? y : k == x + 4 ? y + 4 : k;
                    graph(want + ">1;;", "A=(" + ACTIONS[k] + ".0)[" + LETTERS[y] + "/" + LETTERS[x] + "]");
                }
            }
        }
        Bench b = Bench.with("A=(a.b.'a.0)[b/a]");
        b.load(0, 0).due(4);
        b.shown().due("2>1;2>2;6>3;;");
        b.size(1).due(4);
        b.size(3).due(2);
    }

    private static void movesLeftOut() {
        Bench.says("Terms: A move with the same action and term as an earlier one is left out.");
        graph("1>1;;", "A=a.0+a.0");
        graph("1>1;;", "A=a.0+a.0+a.0+a.0");
        graph("1>1,2>1;;", "A=a.0+b.0");
        graph("1>1,5>1;;", "A=a.0+'a.0");
        graph("1>1,1>2;;;", "A=a.0+a.B", "B=0");
        graph("2>1,1>1;;", "A=b.0+a.0+b.0");
        graph("1>1,2>1;;", "A=B+b.0+B", "B=a.0");
        graph("1>1;;", "A=(a.0+b.0)[a/b]");
        graph("1>1,5>1;;", "A=(a.0+b.0+B)[a/b]", "B='b.0+'a.0");
        // Two that meet lead to 0|0 by both letters.
        graph("1>1,2>1,5>2,6>2,0>3;5>3,6>3;1>3,2>3;;", "A=B|C", "B=a.0+b.0", "C='a.0+'b.0");
        // The inner move of two that meet is one that P had before.
        graph("0>1,1>1,5>2;5>1;0>1,1>1,5>2;", "A=(t.0+a.0)|B", "B='a.B");
    }

    private static void loadOfNumbers() {
        Bench.says("Promise 6: IndexOutOfBoundsException when one is not 0 .. 3");
        Bench b = Bench.with("A=a.0", "D=d.0");
        for (int far : FAR) {
            b.load(far, 0).due(Bench.INDEX);
            b.load(0, far).due(Bench.INDEX);
        }
        b.load(-1, 3).due(Bench.INDEX);
        b.load(3, -1).due(Bench.INDEX);
        b.load(4, 3).due(Bench.INDEX);
        b.load(3, 4).due(Bench.INDEX);
        b.load(4, 4).due(Bench.INDEX);
        b.states().due(0);
        b.load(0, 3).due(3);
        b.load(3, 0).due(3);
        b.load(3, 3).due(2);
        Bench.says("Promise 6: IllegalArgumentException when checking one of them does not answer 0");
        Bench c = Bench.with("A=0", "C=C", "D=a.D\\a");
        for (int name = 1; name < 4; name++) {
            c.check(name).due(name);
            c.load(name, 0).due(Bench.ARGUMENT);
            c.load(0, name).due(Bench.ARGUMENT);
            c.load(name, name).due(Bench.ARGUMENT);
        }
        c.load(0, 0).due(1);
    }

    private static void loadNumbersStates() {
        Bench.says("Terms: the first name is state 0; the states are gone through in order, and each term that one of a"
                + " state's moves, in order, leads to and that is no state yet becomes the next one");
        graph("1>1,2>2;3>3;4>4;;1>2;", "A=a.B+b.C", "B=c.0", "C=d.D", "D=a.C");
        graph("1>0;", "A=a.A");
        graph("1>1,2>0,3>1;4>0;", "A=a.B+b.A+c.B", "B=d.A");
        Bench.says("Terms: when all were gone through, the second name becomes the next one, if it is none yet, and all"
                + " goes on");
        Bench b = Bench.with("A=a.b.0", "B=b.a.0", "C=c.A", "D=A");
        b.load(0, 1).due(5);
        b.second().due(3);
        b.shown().due("1>1;2>2;;2>4;1>2;");
        b.load(2, 0).due(4);
        b.second().due(1);
        b.load(0, 2).due(4);
        b.second().due(3);
        b.shown().due("1>1;2>2;;3>0;");
        b.load(0, 3).due(4);
        b.second().due(3);
        b.shown().due("1>1;2>2;;1>1;");
        b.load(1, 1).due(3);
        b.second().due(0);
    }

    private static void loaded(Object want, int first, int second, String... definitions) {
        Bench b = Bench.with(definitions);
        b.load(first, second).due(want);
        b.states().due(want instanceof Integer ? want : 0);
    }

    private static void loadStates() {
        Bench.says("Terms: It is TOO LARGE when there would be more than 20 states");
        loaded(19, 0, 0, and(LONG, "C=a.a.0"));
        loaded(20, 0, 0, and(LONG, "C=a.a.a.0"));
        loaded(Bench.STATE, 0, 0, and(LONG, "C=a.a.a.a.0"));
        loaded(Bench.STATE, 0, 0, and(LONG, "C=a.a.a.a.a.a.a.a.D", "D=a.a.a.a.a.a.a.a.0"));
        loaded(20, 0, 0, and(LONG, "C=a.a.a.a.A"));
        loaded(Bench.STATE, 0, 0, and(LONG, "C=a.a.a.a.a.A"));
        loaded(19, 0, 0, and(LONG, "C=a.0+b.b.0+c.0"));
        loaded(20, 0, 0, and(LONG, "C=a.0+b.b.0+c.c.0"));
        loaded(Bench.STATE, 0, 0, and(LONG, "C=a.a.0+b.b.0+c.c.0"));
        // Side by side the states are multiplied; A stands for B|C, which is a state of its own when it comes again.
        loaded(16, 0, 0, "A=B|C", "B=a.a.a.0", "C=b.b.b.0");
        loaded(17, 0, 0, "A=B|C", "B=a.a.a.0", "C=b.b.b.b.C");
        loaded(20, 0, 0, "A=B|C", "B=a.a.a.0", "C=b.b.b.b.0");
        loaded(Bench.STATE, 0, 0, "A=B|C", "B=a.a.a.0", "C=b.b.b.b.b.C");
    }

    private static void loadStatesWithTheSecond() {
        Bench.says("Terms: It is TOO LARGE when there would be more than 20 states");
        loaded(19, 0, 3, and(LONG, "C=a.0", "D=d.0"));
        loaded(20, 0, 3, and(LONG, "C=a.a.0", "D=0"));
        loaded(20, 0, 3, and(LONG, "C=a.a.0", "D=d.0+a.a.0"));
        loaded(Bench.STATE, 0, 3, and(LONG, "C=a.a.0", "D=d.d.0"));
        loaded(Bench.STATE, 0, 3, and(LONG, "C=a.a.a.0", "D=0"));
        loaded(20, 0, 2, and(LONG, "C=a.a.a.0", "D=0"));
        loaded(20, 0, 0, and(LONG, "C=a.a.a.0", "D=0"));
        loaded(Bench.STATE, 3, 0, and(LONG, "C=a.a.a.0", "D=0"));
        loaded(20, 3, 0, and(LONG, "C=a.a.0", "D=0"));
        loaded(20, 2, 0, and(LONG, "C=a.a.a.0"));
    }

    private static void loadSizes() {
        Bench.says("Terms: It is TOO LARGE when there would be ... one of a size above 16");
        String a = "A=a.(0|0|0|0|0|0|0)";
        for (int hidden = 0; hidden <= 6; hidden++) {
            String b = "B=A" + "\\b".repeat(hidden);
            Bench bench = Bench.with(a, b, "C=0", "D=c.B");
            bench.load(1, 1).due(13 + hidden <= 16 ? 2 : Bench.STATE);
            bench.size(1).due(13 + hidden <= 16 ? 13 + hidden : Bench.ELEMENT);
            Bench second = Bench.with(a, b, "C=0", "D=c.B");
            second.load(2, 3).due(13 + hidden <= 16 ? 4 : Bench.STATE);
            second.load(3, 2).due(13 + hidden <= 16 ? 4 : Bench.STATE);
        }
        Bench.says("Terms: the size of states alone is limited");
        // A name stands for nine 0 side by side, 17 in size, but it is itself the state.
        Bench name = Bench.with("A=0|0|0|0|0|0|0|0|0", "B=b.(0|0|0|0|0|0|0)");
        name.load(0, 0).due(1);
        name.size(0).due(1);
        // What a move that is shut in would lead to is no state.
        loaded(1, 2, 2, a, "B=A\\b\\b\\b\\b", "C=B\\a");
        loaded(Bench.STATE, 2, 2, a, "B=A\\b\\b\\b\\b", "C=B\\c");
    }

    private static void loadMoves() {
        Bench.says("Terms: It is TOO LARGE when there would be ... a term with more than 8 moves, those that are left out"
                + " not counted");
        Bench seven = Bench.with(and(WIDE, "C=0"));
        seven.load(0, 0).due(2);
        seven.moves(0).due(7);
        Bench eight = Bench.with(and(WIDE, "C='d.0"));
        eight.load(0, 0).due(2);
        eight.moves(0).due(8);
        eight.move(0, 7, 0).due(8);
        eight.move(0, 7, 1).due(1);
        loaded(Bench.STATE, 0, 0, and(WIDE, NINTH));
        Bench same = Bench.with(and(WIDE, "C='d.0+a.0+'d.0+d.0"));
        same.load(0, 0).due(2);
        same.moves(0).due(8);
        loaded(Bench.STATE, 0, 0, and(WIDE, "C='d.0+a.0+a.D", "D=0"));
        // Side by side: those of both, and one inner move for all letters that meet.
        String four = "B=a.0+b.0+c.0+d.0";
        Bench meeting = Bench.with("A=B|C", four, "C='a.0+'b.0+'c.0");
        meeting.load(0, 0).due(4);
        meeting.moves(0).due(8);
        meeting.move(0, 7, 0).due(0);
        meeting.move(0, 7, 1).due(3);
        Bench fewer = Bench.with("A=B|C", four, "C='a.0+'b.0");
        fewer.load(0, 0).due(4);
        fewer.moves(0).due(7);
        loaded(Bench.STATE, 0, 0, "A=B|C", four, "C='a.0+'b.0+'c.0+D", "D='d.0");
        loaded(4, 0, 0, "A=B|C", four, "C=D", "D=a.0+b.0+c.0+d.0");
        loaded(Bench.STATE, 0, 0, "A=B|C", four, "C=D+t.0", "D=a.0+b.0+c.0+d.0");
    }

    /** D's moves are made of A's: so many states when A has 8 moves, too large when it has 9. */
    private static void made(int states, String... ofD) {
        for (String d : ofD) {
            loaded(states, 3, 3, and(WIDE, "C='d.0", d));
            loaded(Bench.STATE, 3, 3, and(WIDE, NINTH, d));
        }
    }

    private static void loadMovesOfParts() {
        Bench.says("Terms: (also one of whose moves those of a state are made)");
        made(2, "D=A", "D=A\\a", "D=A\\a\\b\\c", "D=A[a/b]", "D=A[a/b][a/c][a/d]", "D=A+0", "D=0+A", "D=(A|0)\\a",
                "D=(0|A)\\d", "D=(A+A)\\a", "D=((A\\a)|0)\\b");
        made(3, "D=a.0+A\\a", "D=b.(A\\a)", "D=b.A");
        made(4, "D=b.c.A");
        Bench.says("Terms: a term of whose moves none of a state's are made may have more than 8");
        loaded(1, 3, 3, and(WIDE, NINTH, "D=(b.A)\\b"));
        loaded(1, 3, 3, and(WIDE, NINTH, "D=(b.(A|A))\\b|0"));
        loaded(2, 3, 3, and(WIDE, NINTH, "D=a.0+(b.A)\\b"));
        loaded(Bench.STATE, 3, 3, and(WIDE, NINTH, "D=a.0+(b.A)\\c"));
        loaded(2, 2, 2, and(WIDE, NINTH));
        Bench eight = Bench.with(and(WIDE, "C='d.0", "D=A\\a"));
        eight.load(3, 3).due(2);
        eight.moves(0).due(6);
    }

    private static void firstException() {
        Bench.says("Terms: of several exceptions the one that stands first in the throws clause is thrown");
        Bench b = Bench.with(and(LONG, "C=a.a.a.a.a.a.0"));
        b.load(0, 0).due(Bench.STATE);
        b.load(0, 3).due(Bench.ARGUMENT);
        b.load(3, 0).due(Bench.ARGUMENT);
        b.load(3, 4).due(Bench.INDEX);
        b.load(-1, 3).due(Bench.INDEX);
        b.load(0, 4).due(Bench.INDEX);
        b.load(4, 0).due(Bench.INDEX);
    }

    private static void statesAndSecond() {
        Bench.says("Promise 7: How many states are loaded; 0 when nothing is.");
        Bench b = Bench.with("A=a.0", "B=B");
        b.states().due(0);
        Bench.says("Promise 8: NoSuchElementException when nothing is loaded.");
        b.second().due(Bench.ELEMENT);
        b.load(0, 1).due(Bench.ARGUMENT);
        b.states().due(0);
        b.second().due(Bench.ELEMENT);
        b.load(0, 0).due(2);
        b.states().due(2);
        b.second().due(0);
        b.load(0, 1).due(Bench.ARGUMENT);
        b.states().due(2);
        Bench one = Bench.with("A=0");
        one.load(0, 0).due(1);
        one.states().due(1);
        one.second().due(0);
        Bench twenty = Bench.with(and(LONG, "C=a.a.0", "D=0"));
        twenty.load(0, 3).due(20);
        twenty.states().due(20);
        twenty.second().due(19);
        twenty.load(0, 2).due(19);
        twenty.second().due(16);
        Bench tooLarge = Bench.with(and(LONG, "C=a.a.a.0", "D=0"));
        tooLarge.load(0, 3).due(Bench.STATE);
        tooLarge.states().due(0);
        tooLarge.second().due(Bench.ELEMENT);
    }

    private static void movesOfNoState() {
        Bench.says("Promise 9: NoSuchElementException when there is no such state.");
        new Bench().moves(0).due(Bench.ELEMENT);
        Bench b = Bench.with("A=a.b.0");
        b.moves(0).due(Bench.ELEMENT);
        b.load(0, 0).due(3);
        b.moves(-1).due(Bench.ELEMENT);
        b.moves(0).due(1);
        b.moves(2).due(0);
        b.moves(3).due(Bench.ELEMENT);
        for (int far : FAR) {
            b.moves(far).due(Bench.ELEMENT);
        }
        Bench twenty = Bench.with(and(LONG, "C=a.a.a.0"));
        twenty.load(0, 0).due(20);
        twenty.moves(18).due(1);
        twenty.moves(19).due(0);
        twenty.moves(20).due(Bench.ELEMENT);
        Bench fewer = Bench.with(and(LONG, "C=a.a.a.0", "D=0"));
        fewer.load(0, 0).due(20);
        fewer.load(3, 3).due(1);
        fewer.moves(0).due(0);
        fewer.moves(1).due(Bench.ELEMENT);
    }

    private static void moveOfNoMove() {
        Bench.says("Promise 10: NoSuchElementException when there is no such state, move or what.");
        new Bench().move(0, 0, 0).due(Bench.ELEMENT);
        Bench b = Bench.with("A=a.B+'d.0", "B=t.B");
        b.load(0, 0).due(3);
        b.move(0, -1, 0).due(Bench.ELEMENT);
        b.move(0, 0, 0).due(1);
        b.move(0, 0, 1).due(1);
        b.move(0, 1, 0).due(8);
        b.move(0, 1, 1).due(2);
        b.move(0, 2, 0).due(Bench.ELEMENT);
        b.move(1, 0, 0).due(0);
        b.move(1, 1, 0).due(Bench.ELEMENT);
        b.move(2, 0, 0).due(Bench.ELEMENT);
        b.move(3, 0, 0).due(Bench.ELEMENT);
        b.move(-1, 0, 0).due(Bench.ELEMENT);
        b.move(1, -7, 0).due(Bench.ELEMENT);
        b.move(0, 8, 0).due(Bench.ELEMENT);
        b.move(0, 0, -1).due(Bench.ELEMENT);
        b.move(0, 0, 2).due(Bench.ELEMENT);
        for (int far : FAR) {
            b.move(far, 0, 0).due(Bench.ELEMENT);
            b.move(0, far, 1).due(Bench.ELEMENT);
            b.move(0, 0, far).due(Bench.ELEMENT);
        }
        Bench eight = Bench.with(and(WIDE, "C='d.0"));
        eight.load(0, 0).due(2);
        eight.move(0, 7, 0).due(8);
        eight.move(0, 8, 0).due(Bench.ELEMENT);
        eight.move(0, 9, 0).due(Bench.ELEMENT);
    }

    private static void sizeOfNoState() {
        Bench.says("Promise 11: The size of a state's term. NoSuchElementException when there is no such state.");
        new Bench().size(0).due(Bench.ELEMENT);
        Bench b = Bench.with("A=a.b.0");
        b.load(0, 0).due(3);
        b.size(-1).due(Bench.ELEMENT);
        b.size(0).due(1);
        b.size(1).due(2);
        b.size(2).due(1);
        b.size(3).due(Bench.ELEMENT);
        for (int far : FAR) {
            b.size(far).due(Bench.ELEMENT);
        }
        Bench twenty = Bench.with(and(LONG, "C=a.a.0", "D=b.b.b.0"));
        twenty.load(0, 2).due(19);
        twenty.size(1).due(8);
        twenty.size(7).due(2);
        twenty.size(8).due(1);
        twenty.size(18).due(1);
        twenty.size(19).due(Bench.ELEMENT);
    }

    private static void loadWithMuchBetween() {
        Bench.says("Terms: of P | Q, P \\ x and P[y/x] the moves, however many terms they are made of");
        loaded(1, 0, 0, "A=B|B|B|B|B|B|B|B|B", "B=C|C|C|C|C|C|C|C|C", "C=D|D|D|D|D|D|D|D|D", "D=0|0|0|0|0|0|0|0|0");
        String hidden = "\\a".repeat(8);
        loaded(1, 0, 0, "A=B" + hidden, "B=C" + hidden, "C=D" + hidden, "D=0" + hidden);
        // Twenty states, and many terms between.
        loaded(20, 0, 1, "A=d.0+(D|D)\\a+c.c.0", "B='d.a.B", "C=D[a/d]", "D=c.0|'a.0|d.0");
    }

    private static void lastOfManyCalls() {
        Bench.says("What it is: An object is used for at most 512 calls after it has been made");
        Bench b = Bench.with(and(LONG, "C=a.a.a.0", "D=A|B"));
        for (int i = 0; b.callsMade() < Bench.CALL_LIMIT - 4; i++) {
            b.load(i % 3, 2 + i % 2);
        }
        b.load(0, 0).due(20);
        b.define("C=0").due(2);
        b.load(0, 0).due(17);
        if (b.callsMade() != Bench.CALL_LIMIT) {
            Bench.fault("the last call is not the 512th but the " + b.callsMade() + "th");
        }
    }
}
