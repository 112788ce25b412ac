/** The boundaries of likeness, of being stuck, and of formulas asked of states: promises 12 to 18. */
public final class AskBoundaryTest {
    private static final String[] ACTIONS = {"t", "a", "b", "c", "d", "'a", "'b", "'c", "'d", "*"};
    // Numbers beyond every limit, also such as come back within it when they are multiplied or shifted.
    private static final int[] FAR = {-1, 20, 31, 32, 33, 64, 256, 1 << 28, 1 << 29, 1 << 30, -(1 << 29),
            Integer.MAX_VALUE, Integer.MIN_VALUE, Integer.MIN_VALUE + 1};

    public static void main(String[] args) {
        levelOfNoState();
        levelOnALongChain();
        levelOnALongCircle();
        levelsOfEachKind();
        levelNeedsBothSides();
        levelsWeakly();
        weakMovesOnALongChain();
        tellsOfNoState();
        tellsOfAlike();
        tellsTheLeast();
        tellsAtTheLevelBelow();
        tellsWeakly();
        leaderOfNoState();
        leaderIsTheLeast();
        classesFromNoneToTwenty();
        stuckFromNoneToNineteen();
        holdsOfNoState();
        holdsZeroAndOne();
        holdsChoiceAndPair();
        holdsMovesOfEachKind();
        holdsFixedPoints();
        holdsOnALongChain();
        holdsNestedFixedPoints();
        pairsOfNoState();
        pairsOfEachPart();
        pairsOnALongChain();
        askedAnew();
        Bench.finish();
    }

    /** Twenty states in a row, each but the last with one move to the next. */
    private static Bench chain(String k, String lastStep) {
        String eight = (k + ".").repeat(8);
        Bench b = Bench.with("A=" + eight + "B", "B=" + eight + "C", "C=" + k + "." + k + "." + lastStep + ".0");
        b.load(0, 0).due(20);
        return b;
    }

    private static Bench circle() {
        String eight = "a.".repeat(8);
        Bench b = Bench.with("A=" + eight + "B", "B=" + eight + "C", "C=a.a.a.a.A");
        b.load(0, 0).due(20);
        return b;
    }

    private static Bench loaded(String... definitions) {
        Bench b = Bench.with(definitions);
        b.load(0, 0);
        return b;
    }

    private static void levelOfNoState() {
        Bench.says("Promise 12: NoSuchElementException when there is no such state.");
        new Bench().level(0, 0, false).due(Bench.ELEMENT);
        new Bench().level(0, 0, true).due(Bench.ELEMENT);
        Bench b = loaded("A=a.0");
        for (boolean weakly : new boolean[] {false, true}) {
            b.level(-1, 0, weakly).due(Bench.ELEMENT);
            b.level(0, -1, weakly).due(Bench.ELEMENT);
            b.level(0, 0, weakly).due(0);
            b.level(0, 1, weakly).due(1);
            b.level(1, 0, weakly).due(1);
            b.level(1, 1, weakly).due(0);
            b.level(2, 0, weakly).due(Bench.ELEMENT);
            b.level(0, 2, weakly).due(Bench.ELEMENT);
            b.level(2, 2, weakly).due(Bench.ELEMENT);
            for (int far : FAR) {
                b.level(far, 0, weakly).due(Bench.ELEMENT);
                b.level(0, far, weakly).due(Bench.ELEMENT);
                b.level(far, far, weakly).due(Bench.ELEMENT);
            }
        }
    }

    private static void levelOnALongChain() {
        Bench.says("Promise 12: The least level at which two states are not alike, weakly or not; 0 when they are alike.");
        for (boolean weakly : new boolean[] {false, true}) {
            Bench b = chain("a", "a");
            for (int s = 0; s < 20; s++) {
                for (int u = 0; u < 20; u++) {
                    // Of two states at different ends the one nearer to the end stops after 19 less its number.
                    b.level(s, u, weakly).due(s == u ? 0 : 20 - Math.max(s, u));
                }
            }
        }
        Bench top = chain("a", "a");
        top.level(0, 1, false).due(19);
        top.level(18, 19, false).due(1);
        top.level(0, 19, true).due(1);
    }

    private static void levelOnALongCircle() {
        Bench.says("Terms: They are ALIKE when they are at every level.");
        Bench b = circle();
        for (int s = 0; s < 20; s++) {
            b.level(s, 19 - s, false).due(0);
            b.level(s, 0, true).due(0);
            b.leader(s, false).due(0);
        }
        b.classes(false).due(1);
        b.classes(true).due(1);
    }

    private static void parted(int level, Object teller, boolean weakly, String a, String b, String... others) {
        Bench bench = Bench.with(a, b);
        for (String text : others) {
            bench.define(text).due(text.charAt(0) - 'A');
        }
        bench.load(0, 1);
        int second = Bench.number(bench.second());
        bench.level(0, second, weakly).due(level);
        bench.level(second, 0, weakly).due(level);
        bench.tells(0, second, weakly).due(teller);
        bench.tells(second, 0, weakly).due(teller);
        bench.leader(second, weakly).due(level == 0 ? 0 : leaderAfter(bench, second, weakly));
    }

    /** The least state that is alike by the levels, for one that is not alike with state 0. */
    private static int leaderAfter(Bench bench, int s, boolean weakly) {
        int least = 0;
        while (least < s && !bench.level(least, s, weakly).toString().equals("0")) {
            least++;
        }
        return least;
    }

    private static void levelsOfEachKind() {
        Bench.says("Terms: All states are alike at level 0; two are ALIKE at level n + 1 when for every move of each, k to"
                + " a state, the other one has a move k to a state that is alike with it at level n.");
        for (int k = 0; k < 9; k++) {
            for (int j = 0; j < 9; j++) {
                parted(k == j ? 0 : 1, k == j ? Bench.ELEMENT : Math.min(k, j), false, "A=" + ACTIONS[k] + ".0",
                        "B=" + ACTIONS[j] + ".0");
            }
        }
        parted(0, Bench.ELEMENT, false, "A=0", "B=0");
        parted(0, Bench.ELEMENT, false, "A=a.A", "B=a.a.B");
        parted(0, Bench.ELEMENT, false, "A=a.b.0", "B=a.(b.0+b.(0|0))");
        parted(1, 1, false, "A=a.A", "B=0");
        parted(2, 1, false, "A=a.A", "B=a.0");
        parted(3, 1, false, "A=a.A", "B=a.a.0");
        parted(2, 1, false, "A=a.(b.0+c.0)", "B=a.b.0+a.c.0");
        parted(3, 4, false, "A=d.a.(b.0+c.0)", "B=d.(a.b.0+a.c.0)");
        parted(8, 1, false, "A=a.a.a.a.a.a.a.0", "B=a.a.a.a.a.a.a.a.0");
        parted(9, 1, false, "A=a.a.a.a.a.a.a.a.0", "B=a.a.a.a.a.a.a.a.B");
    }

    private static void levelNeedsBothSides() {
        Bench.says("Terms: for every move of each, k to a state, the other one has a move k");
        parted(1, 2, false, "A=a.0+b.0", "B=a.0");
        parted(1, 2, false, "A=a.0", "B=a.0+b.0");
        parted(2, 1, false, "A=a.b.0+a.0", "B=a.b.0");
        parted(2, 1, false, "A=a.b.0", "B=a.0+a.b.0");
        parted(2, 1, false, "A=a.b.0+a.0", "B=a.0");
        // Each can do what the other does, but not in turn.
        parted(3, 1, false, "A=a.b.D+a.C", "B=a.C", "C=b.0+b.D", "D=c.0");
    }

    private static void levelsWeakly() {
        Bench.says("Terms: weak inner moves lead from a state to itself and to all that is come to by inner moves, one after"
                + " the other");
        parted(0, Bench.ELEMENT, true, "A=0", "B=t.0");
        parted(0, Bench.ELEMENT, true, "A=0", "B=t.t.t.t.t.t.t.t.0");
        parted(0, Bench.ELEMENT, true, "A=0", "B=t.B");
        parted(0, Bench.ELEMENT, true, "A=t.A", "B=t.t.B");
        parted(1, 0, false, "A=0", "B=t.0");
        parted(0, Bench.ELEMENT, true, "A=a.0", "B=t.a.0+a.0");
        parted(2, 0, true, "A=a.0+t.b.0", "B=a.0+b.0");
        parted(2, 0, true, "A=a.0+t.0", "B=a.0");
        Bench.says("Terms: weak moves k from a state by a weak inner one, a move k, and a weak inner one");
        parted(0, Bench.ELEMENT, true, "A=a.0", "B=t.a.0");
        parted(0, Bench.ELEMENT, true, "A=a.0", "B=a.t.0");
        parted(0, Bench.ELEMENT, true, "A=a.0", "B=t.t.a.t.t.0");
        parted(0, Bench.ELEMENT, true, "A=a.b.0", "B=a.t.b.0");
        parted(0, Bench.ELEMENT, true, "A=a.(b.0+t.D)+a.D", "B=a.(b.0+t.D)", "D=c.0");
        parted(0, Bench.ELEMENT, true, "A=t.(a.0+t.D)+a.0", "B=a.0+t.D", "D=c.0");
        parted(2, 1, true, "A=a.(b.0+t.D)", "B=a.b.0+a.D", "D=c.0");
        parted(1, 1, true, "A=t.a.0", "B=t.0");
        // Two moves a are no weak move a, nor is an inner one.
        parted(2, 1, true, "A=a.a.0", "B=a.0");
        parted(2, 2, true, "A=b.t.a.0", "B=b.t.0");
        for (int k = 1; k < 9; k++) {
            parted(0, Bench.ELEMENT, true, "A=" + ACTIONS[k] + ".0", "B=t." + ACTIONS[k] + ".t.0");
            parted(1, k, true, "A=" + ACTIONS[k] + ".0", "B=t.0");
        }
    }

    private static void weakMovesOnALongChain() {
        Bench.says("Terms: to all that is come to by inner moves, one after the other");
        Bench b = chain("t", "t");
        b.classes(true).due(1);
        b.leader(19, true).due(0);
        b.level(0, 19, true).due(0);
        b.classes(false).due(20);
        b.level(0, 1, false).due(19);
        Bench lastOpen = chain("t", "d");
        lastOpen.classes(true).due(2);
        lastOpen.leader(18, true).due(0);
        lastOpen.leader(19, true).due(19);
        lastOpen.level(0, 18, true).due(0);
        lastOpen.level(0, 19, true).due(1);
        lastOpen.tells(0, 19, true).due(4);
        lastOpen.tells(0, 1, false).due(0);
    }

    private static void tellsOfNoState() {
        Bench.says("Promise 13: NoSuchElementException when there is no such state, or they are alike.");
        new Bench().tells(0, 0, false).due(Bench.ELEMENT);
        new Bench().tells(0, 1, true).due(Bench.ELEMENT);
        Bench b = loaded("A=a.0");
        for (boolean weakly : new boolean[] {false, true}) {
            b.tells(-1, 0, weakly).due(Bench.ELEMENT);
            b.tells(0, -1, weakly).due(Bench.ELEMENT);
            b.tells(0, 1, weakly).due(1);
            b.tells(1, 0, weakly).due(1);
            b.tells(2, 0, weakly).due(Bench.ELEMENT);
            b.tells(0, 2, weakly).due(Bench.ELEMENT);
            for (int far : FAR) {
                b.tells(far, 0, weakly).due(Bench.ELEMENT);
                b.tells(0, far, weakly).due(Bench.ELEMENT);
                b.tells(far, far, weakly).due(Bench.ELEMENT);
            }
        }
    }

    private static void tellsOfAlike() {
        Bench.says("Promise 13: NoSuchElementException when there is no such state, or they are alike.");
        Bench b = loaded("A=a.B", "B=t.A");
        b.tells(0, 0, false).due(Bench.ELEMENT);
        b.tells(1, 1, true).due(Bench.ELEMENT);
        b.tells(0, 1, false).due(0);
        b.tells(0, 1, true).due(Bench.ELEMENT);
        Bench twins = loaded("A=a.B", "B=a.A");
        twins.tells(0, 1, false).due(Bench.ELEMENT);
        twins.tells(1, 0, true).due(Bench.ELEMENT);
    }

    private static void tellsTheLeast() {
        Bench.says("Promise 13: The least action k");
        for (int k = 0; k < 9; k++) {
            parted(1, k, false, "A=" + ACTIONS[k] + ".0", "B=0");
            parted(1, k, false, "A=0", "B=" + ACTIONS[k] + ".0");
            for (int j = k + 1; j < 9; j++) {
                parted(1, k, false, "A=" + ACTIONS[j] + ".0+" + ACTIONS[k] + ".0", "B=0");
                // The greater one on one side, the least on the other; and the least when both sides have it.
                parted(1, k, false, "A=" + ACTIONS[j] + ".0", "B=" + ACTIONS[k] + ".0");
                parted(1, j, false, "A=" + ACTIONS[j] + ".0+" + ACTIONS[k] + ".0", "B=" + ACTIONS[k] + ".0");
            }
        }
    }

    private static void tellsAtTheLevelBelow() {
        Bench.says("Promise 13: to a state that is alike, at the level below the least one at which the two are not, with"
                + " none that the other one's (weak) moves k lead to");
        // By a the two go to states that part at level 2, by b to such as part at level 1: b alone tells at level 2.
        parted(2, 2, false, "A=a.a.a.0+b.0", "B=a.a.0+b.b.0");
        parted(3, 1, false, "A=a.a.a.0+b.0", "B=a.a.0+b.0");
        parted(2, 1, false, "A=a.a.0+b.0", "B=a.0+b.b.0");
        parted(2, 2, true, "A=a.a.a.0+b.0", "B=a.a.0+b.b.0");
        parted(3, 1, true, "A=a.a.a.0+b.0", "B=a.a.0+b.0");
        parted(2, 1, false, "A=a.0+a.b.0", "B=a.0+a.c.0");
        parted(2, 1, false, "A=a.0+a.b.0", "B=a.b.0");
        parted(1, 3, false, "A=a.0+a.b.0", "B=a.b.0+c.0");
    }

    private static void tellsWeakly() {
        Bench.says("Promise 13: one of two states has a (weak) move k");
        parted(1, 1, true, "A=t.0+a.0", "B=0");
        parted(1, 0, false, "A=t.0+a.0", "B=0");
        parted(2, 0, true, "A=t.0+a.0", "B=a.0");
        parted(1, 0, false, "A=t.0+a.0", "B=a.0");
        parted(1, 3, true, "A=a.0+t.c.0", "B=a.0");
        parted(1, 2, true, "A=t.b.0+a.0", "B=t.a.0");
        parted(1, 8, true, "A=t.t.'d.0", "B=t.0");
    }

    private static void leaderOfNoState() {
        Bench.says("Promise 14: NoSuchElementException when there is no such state.");
        new Bench().leader(0, false).due(Bench.ELEMENT);
        new Bench().leader(0, true).due(Bench.ELEMENT);
        Bench b = loaded("A=a.0");
        for (boolean weakly : new boolean[] {false, true}) {
            b.leader(-1, weakly).due(Bench.ELEMENT);
            b.leader(0, weakly).due(0);
            b.leader(1, weakly).due(1);
            b.leader(2, weakly).due(Bench.ELEMENT);
            for (int far : FAR) {
                b.leader(far, weakly).due(Bench.ELEMENT);
            }
        }
    }

    private static void leaderIsTheLeast() {
        Bench.says("Promise 14: The least state that is alike with a state, weakly or not.");
        Bench chain = chain("a", "a");
        for (int s = 0; s < 20; s++) {
            chain.leader(s, false).due(s);
            chain.leader(s, true).due(s);
        }
        // States: A, B, C, 0, D; B and C are alike, and weakly D with them.
        Bench b = Bench.with("A=a.B+b.C", "B=c.0", "C=c.0+c.0", "D=t.B");
        b.load(0, 3).due(5);
        b.leader(0, false).due(0);
        b.leader(1, false).due(1);
        b.leader(2, false).due(1);
        b.leader(3, false).due(3);
        b.leader(4, false).due(4);
        b.leader(2, true).due(1);
        b.leader(4, true).due(1);
        b.classes(false).due(4);
        b.classes(true).due(3);
    }

    private static void classesFromNoneToTwenty() {
        Bench.says("Promise 15: How many states there are of which no two are alike, weakly or not.");
        new Bench().classes(false).due(0);
        new Bench().classes(true).due(0);
        Bench one = loaded("A=0");
        one.classes(false).due(1);
        one.classes(true).due(1);
        Bench two = loaded("A=t.0");
        two.classes(false).due(2);
        two.classes(true).due(1);
        Bench twenty = chain("a", "a");
        twenty.classes(false).due(20);
        twenty.classes(true).due(20);
        Bench circle = circle();
        circle.classes(false).due(1);
        circle.classes(true).due(1);
    }

    private static void stuckFromNoneToNineteen() {
        Bench.says("Promise 16: The fewest moves from state 0 to a state that has none; -1 when there is none to be come"
                + " to, or nothing is loaded.");
        new Bench().stuck().due(-1);
        Bench.with("A=0").stuck().due(-1);
        loaded("A=0").stuck().due(0);
        loaded("A=(a.0)\\a").stuck().due(0);
        loaded("A=a.0").stuck().due(1);
        loaded("A=t.0").stuck().due(1);
        loaded("A=a.a.a.0+b.b.0").stuck().due(2);
        loaded("A=a.a.a.0+b.b.0+c.0").stuck().due(1);
        loaded("A=a.A").stuck().due(-1);
        loaded("A=a.A+b.0").stuck().due(1);
        chain("a", "a").stuck().due(19);
        chain("t", "'d").stuck().due(19);
        circle().stuck().due(-1);
        Bench.says("Promise 16: the fewest moves from state 0, wherever the second name leads");
        Bench second = Bench.with("A=a.A", "B=0", "C=c.c.0");
        second.load(0, 1).due(2);
        second.stuck().due(-1);
        second.load(1, 0).due(2);
        second.stuck().due(0);
        second.load(2, 1).due(4);
        second.stuck().due(2);
        second.load(0, 4).due(Bench.INDEX);
        second.stuck().due(2);
    }

    private static void holdsOfNoState() {
        Bench.says("Promise 17: IllegalStateException when there is no formula; NoSuchElementException when there is no such"
                + " state.");
        Bench b = Bench.with("A=a.0");
        b.holds(0).due(Bench.STATE);
        b.holds(-1).due(Bench.STATE);
        b.load(0, 0).due(2);
        b.holds(0).due(Bench.STATE);
        b.holds(1).due(Bench.STATE);
        b.holds(2).due(Bench.STATE);
        b.holds(-1).due(Bench.STATE);
        b.formula("2").due(Bench.ARGUMENT);
        b.holds(0).due(Bench.STATE);
        b.formula("1").due(1);
        b.holds(-1).due(Bench.ELEMENT);
        b.holds(0).due(true);
        b.holds(1).due(true);
        b.holds(2).due(Bench.ELEMENT);
        for (int far : FAR) {
            b.holds(far).due(Bench.ELEMENT);
        }
        Bench unloaded = new Bench();
        unloaded.formula("1").due(1);
        unloaded.holds(0).due(Bench.ELEMENT);
    }

    private static void has(String want, String formula, String... definitions) {
        Bench b = loaded(definitions);
        b.formula(formula);
        b.having().due(want);
    }

    private static void holdsZeroAndOne() {
        Bench.says("Terms: A state HAS 1, never 0");
        has("11", "1", "A=a.0");
        has("00", "0", "A=a.0");
        has("1", "((1))", "A=0");
    }

    private static void holdsChoiceAndPair() {
        Bench.says("Terms: P | Q when it has one of them, P & Q both");
        for (int p = 0; p < 2; p++) {
            for (int q = 0; q < 2; q++) {
                has("" + (p | q), p + "|" + q, "A=0");
                has("" + (p & q), p + "&" + q, "A=0");
                for (int r = 0; r < 2; r++) {
                    has("" + (p | q & r), p + "|" + q + "&" + r, "A=0");
                    has("" + (p & q | r), p + "&" + q + "|" + r, "A=0");
                    has("" + (p & (q | r)), p + "&(" + q + "|" + r + ")", "A=0");
                    has("" + (p | q | r), p + "|" + q + "|" + r, "A=0");
                    has("" + (p & q & r), p + "&" + q + "&" + r, "A=0");
                }
            }
        }
        has("100", "<a>1|0", "A=a.b.0");
        has("110", "<a>1|<b>1", "A=a.b.0");
        has("000", "<a>1&<b>1", "A=a.b.0");
        has("010", "<a>1&0|<b>1", "A=a.b.0");
    }

    private static void holdsMovesOfEachKind() {
        Bench.says("Terms: <k>P when one of its moves k (with * any move) leads to a state that has P; [k]P when all such"
                + " do");
        for (int k = 0; k < 9; k++) {
            String a = "A=" + ACTIONS[k] + ".0";
            for (int j = 0; j < 10; j++) {
                boolean fits = j == k || j == 9;
                has(fits ? "10" : "00", "<" + ACTIONS[j] + ">1", a);
                has(fits ? "01" : "11", "[" + ACTIONS[j] + "]0", a);
                has("00", "<" + ACTIONS[j] + ">0", a);
                has("11", "[" + ACTIONS[j] + "]1", a);
            }
        }
        // States: A, b.0, 0
        has("100", "<a><b>1", "A=a.b.0+a.0");
        has("011", "[a]<b>1", "A=a.b.0+a.0");
        has("111", "[a]<b>1", "A=a.b.0+a.b.0");
        has("111", "[a]<b>1", "A=a.b.0+c.0");
        has("011", "[*]<b>1|[*]0|<b>1", "A=a.b.0+c.0");
        has("100", "<*><b>1", "A=a.b.0+c.0");
        has("100", "<a>1&<a>[*]0", "A=a.b.0+a.0");
        // A modality takes the next item alone.
        has("110", "<a>0|<*>1", "A=a.b.0");
        has("010", "<b>1&1", "A=a.b.0");
    }

    private static void holdsFixedPoints() {
        Bench.says("Terms: mx.P is the least, nx.P the greatest set of states that is the set of those that have P, x being"
                + " had by just the states of that set");
        has("000", "mx.x", "A=a.b.0");
        has("111", "nx.x", "A=a.b.0");
        has("111", "mx.1", "A=a.b.0");
        has("000", "nx.0", "A=a.b.0");
        has("100", "mx.<a>1", "A=a.b.0");
        has("0", "mx.<a>x", "A=a.A");
        has("1", "nx.<a>x", "A=a.A");
        has("0", "mx.[a]x", "A=a.A");
        has("1", "nx.[a]x", "A=a.A");
        has("1", "mx.[b]x", "A=a.A");
        has("110", "mx.<b>1|<a>x", "A=a.b.0");
        has("111", "nx.<b>1|[a]x", "A=a.b.0");
        has("11", "mx.<b>1|<*>x", "A=a.B", "B=b.A+c.A");
        has("00", "mx.<c>1|<*>x", "A=a.B", "B=b.A");
        has("11", "nx.<*>x", "A=a.B", "B=b.A");
        Bench.says("Terms: mx. or nx. and a formula, as far as it goes");
        has("010", "mx.<b>1&1|0&x", "A=a.b.0");
        has("110", "(mx.<b>1|<a>x)|0", "A=a.b.0");
        has("100", "<a>(mx.<b>1|<a>x)", "A=a.b.0");
        has("000", "(mx.x)|(ny.<a>y)", "A=a.b.0");
    }

    private static void onChain(String want, String formula) {
        Bench b = chain("a", "a");
        b.formula(formula);
        b.having().due(want);
    }

    private static void holdsOnALongChain() {
        Bench.says("Terms: mx.P is the least, nx.P the greatest set of states that is the set of those that have P");
        String all = "1".repeat(20);
        String none = "0".repeat(20);
        onChain(all, "1");
        onChain("1".repeat(19) + "0", "<a>1");
        onChain("0".repeat(19) + "1", "[*]0");
        onChain("0".repeat(18) + "11", "[*][*]0");
        onChain(all, "mx.[a]x");
        onChain(all, "mx.[*]0|<*>x");
        onChain(none, "nx.<a>x");
        onChain(none, "mx.<a>x");
        onChain(all, "nx.[a]x");
        onChain(all, "nx.my.[a]y&[a]x");
        onChain(none, "mx.ny.<a>y|0&x");
        onChain(all, "nx.my.[a]y|0&x");
        Bench circle = circle();
        circle.formula("nx.<a>x").due(3);
        circle.having().due(all);
        circle.formula("mx.<a>x").due(3);
        circle.having().due(none);
        circle.formula("mx.[a]x|0").due(5);
        circle.having().due(none);
    }

    private static void holdsNestedFixedPoints() {
        Bench.says("Terms: x being had by just the states of that set");
        // Again and again b; in the end b alone.
        has("11", "nx.my.<b>x|<a>y", "A=a.B", "B=b.A");
        has("00", "mx.ny.<a>x|<b>y", "A=a.B", "B=b.A");
        has("00", "nx.my.<b>x|<a>y", "A=a.B", "B=a.A");
        has("11", "mx.ny.<a>x|<b>y", "A=a.B", "B=b.B");
        has("11", "nx.my.[b]x&[a]y", "A=a.B", "B=b.A");
        has("00", "nx.my.[b]x&[a]y", "A=a.B", "B=a.A");
        has("11", "nz.mx.ny.<a>x|<b>z", "A=a.B", "B=b.A");
        has("00", "mz.nx.my.<a>x|<b>z", "A=a.B", "B=b.A");
        // The inner set is sought anew each time that the outer one has changed.
        has("110", "mx.<b>1|(ny.<a>x)", "A=a.B", "B=b.0");
        has("111", "nx.(my.[a]y)&[b]x", "A=a.B", "B=b.0");
        has("110", "nx.my.<b>x|<*>y", "A=b.A+a.B", "B=a.A+c.0");
    }

    private static void pairsOfNoState() {
        Bench.says("Promise 18: Exceptions as for holds.");
        Bench b = Bench.with("A=a.0");
        b.pairs(0).due(Bench.STATE);
        b.pairs(-1).due(Bench.STATE);
        b.load(0, 0).due(2);
        b.pairs(0).due(Bench.STATE);
        b.pairs(2).due(Bench.STATE);
        b.formula("x").due(Bench.ARGUMENT);
        b.pairs(0).due(Bench.STATE);
        b.formula("1").due(1);
        b.pairs(-1).due(Bench.ELEMENT);
        b.pairs(0).due(1);
        b.pairs(1).due(1);
        b.pairs(2).due(Bench.ELEMENT);
        for (int far : FAR) {
            b.pairs(far).due(Bench.ELEMENT);
        }
        Bench unloaded = new Bench();
        unloaded.formula("1").due(1);
        unloaded.pairs(0).due(Bench.ELEMENT);
    }

    private static void paired(int want, int s, String formula, String... definitions) {
        Bench b = loaded(definitions);
        b.formula(formula);
        b.pairs(s).due(want);
    }

    private static void pairsOfEachPart() {
        Bench.says("Promise 18: How many pairs of a state and a part of the formula are come to from this state and the"
                + " whole formula, these being counted");
        paired(1, 0, "0", "A=a.0");
        paired(1, 1, "(1)", "A=a.0");
        Bench.says("Promise 18: from | and & to both their sides");
        paired(3, 0, "0|1", "A=a.0");
        paired(3, 0, "0&1", "A=a.0");
        paired(5, 0, "0&0&0", "A=a.0");
        paired(19, 1, "0|1&0|1&0|1&0|1&0|1", "A=a.0");
        // They lead to no other state, whatever moves there are.
        for (String k : ACTIONS) {
            if (!k.equals("*")) {
                paired(3, 0, "0|1", "A=" + k + ".0");
                paired(3, 0, "0&1", "A=" + k + ".0");
                paired(4, 0, "nz.z|0", "A=" + k + ".0");
            }
        }
        Bench.says("Promise 18: from <k>P or [k]P to P and each state that a move k of the state leads to");
        for (int k = 0; k < 9; k++) {
            for (int j = 0; j < 10; j++) {
                int want = j == k || j == 9 ? 2 : 1;
                paired(want, 0, "<" + ACTIONS[j] + ">1", "A=" + ACTIONS[k] + ".0");
                paired(want, 0, "[" + ACTIONS[j] + "]1", "A=" + ACTIONS[k] + ".0");
                paired(1, 1, "[" + ACTIONS[j] + "]1", "A=" + ACTIONS[k] + ".0");
            }
        }
        paired(3, 0, "<a>0", "A=a.0+a.b.0+b.a.0");
        paired(4, 0, "[*]0", "A=a.0+a.b.0+b.a.0");
        // Two moves to one state come to one pair.
        paired(2, 0, "<*>1", "A=a.0+b.0");
        paired(3, 0, "<b>1|0", "A=a.0");
        paired(5, 0, "<a>1|<a>1", "A=a.0");
        Bench.says("Promise 18: from m and n to what is behind them; from a variable to its m or n");
        paired(2, 0, "mx.1", "A=a.0");
        paired(2, 0, "mx.x", "A=a.0");
        paired(3, 0, "mx.ny.x", "A=a.0");
        paired(3, 0, "mx.ny.y", "A=a.0");
        paired(5, 0, "mx.<a>x", "A=a.0");
        paired(2, 1, "mx.<a>x", "A=a.0");
        paired(3, 0, "nx.[a]x", "A=a.A");
        paired(6, 0, "nx.[a]x", "A=a.B", "B=a.A");
        paired(6, 1, "nx.[a]x", "A=a.B", "B=a.A");
        // y leads back to the inner one alone: m at A, n and <b> at all three states, y at the last two.
        paired(9, 0, "mx.ny.<b>y", "A=b.B", "B=b.0");
        paired(11, 0, "mx.ny.<b>x", "A=b.B", "B=b.0");
        paired(4, 0, "(mx.x)&1", "A=0");
        paired(8, 0, "(mx.x)&(ny.y)&(nz.z)", "A=0");
    }

    private static void pairsOnALongChain() {
        Bench.says("Promise 18: How many pairs of a state and a part of the formula are come to");
        for (int s = 0; s < 20; s++) {
            Bench b = chain("a", "a");
            b.formula("mx.<a>x").due(3);
            // m and <a> at this state and all behind it, x at all behind it.
            b.pairs(s).due(3 * (20 - s) - 1);
            b.formula("nx.my.nz.[*]x").due(5);
            b.pairs(s).due(5 * (20 - s) - 1);
            b.formula("mx.x|<a>x").due(5);
            b.pairs(s).due(5 * (20 - s) - 1);
            b.formula("mx.<a>x|x").due(5);
            b.pairs(s).due(5 * (20 - s) - 1);
        }
        Bench circle = circle();
        circle.formula("nx.my.nz.<a>x|<t>y&z").due(10);
        // All parts at all states, but for y, which no inner move leads to.
        circle.pairs(0).due(9 * 20);
        circle.pairs(19).due(9 * 20);
        circle.formula("1|1|1|1|1|1|1|1|1|1").due(19);
        circle.pairs(19).due(19);
        circle.formula("nx.my.nz.<*>x|<*>y&z").due(10);
        circle.pairs(7).due(10 * 20);
        circle.formula("mx.<*>x").due(3);
        for (int s = 0; s < 20; s++) {
            circle.pairs(s).due(3 * 20);
        }
    }

    private static void askedAnew() {
        Bench.says("Promise 6: Loading two names; what is asked then is asked of these states");
        Bench b = Bench.with("A=a.t.0", "B=b.B", "C=t.C");
        b.formula("<a>1").due(2);
        b.load(0, 0).due(3);
        b.having().due("100");
        b.classes(true).due(2);
        b.classes(false).due(3);
        b.stuck().due(2);
        b.load(1, 2).due(2);
        b.having().due("00");
        b.pairs(0).due(1);
        b.classes(true).due(2);
        b.level(0, 1, true).due(1);
        b.tells(0, 1, true).due(2);
        b.tells(0, 1, false).due(0);
        b.stuck().due(-1);
        b.define("A=b.b.A").due(0);
        b.load(0, 0).due(2);
        b.level(0, 1, false).due(0);
        b.level(1, 0, true).due(0);
        b.tells(0, 1, false).due(Bench.ELEMENT);
        b.tells(1, 0, true).due(Bench.ELEMENT);
        b.leader(1, false).due(0);
        b.load(2, 2).due(1);
        b.classes(false).due(1);
        b.level(0, 0, true).due(0);
        b.formula("<t>1").due(2);
        b.having().due("1");
        b.pairs(0).due(2);
    }
}
