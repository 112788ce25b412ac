/**
 * Each call that may be refused: the exception is the one that the document names, and nothing has changed but what it
 * says. Two objects are made alike, one of them makes the refused call, and from there on both are to answer the same.
 */
public final class RefusedTest {
    private static final int[] ODD_NAMES = {-1, 4, 5, 32, -4, Integer.MAX_VALUE, Integer.MIN_VALUE};
    private static final int[] ODD_STATES = {-1, 4, 5, 20, 32, Integer.MAX_VALUE, Integer.MIN_VALUE};

    public static void main(String[] args) {
        type();
        typeThatDoesNotFit();
        define();
        formula();
        check();
        loadOfNoName();
        loadOfWrongNames();
        loadTooLarge();
        asksOfNoState();
        tellsOfAlike();
        asksWithoutFormula();
        asksWithNothingLoaded();
        Bench.finish();
    }

    interface Refused {
        Bench.Answer by(Bench bench);
    }

    interface Making {
        Bench made();
    }

    /** Four states, a formula, three names, and a line that is not yet a definition. */
    private static Bench busy() {
        Bench b = Bench.with("A=a.B+t.0", "B=b.A+c.d.0", "D=a.A|b.0");
        b.formula("mx.<d>1|<*>x").due(6);
        b.load(0, 1).due(4);
        return b.line("C=a.'b");
    }

    private static Bench untouched() {
        return new Bench().line("C=a.'b");
    }

    private static Bench withoutFormula() {
        Bench b = Bench.with("A=a.B+t.0", "B=b.A+c.d.0");
        b.load(0, 1).due(4);
        return b.line("C=a.'b");
    }

    private static Bench withoutLoading() {
        Bench b = Bench.with("A=a.B+t.0", "B=b.A+c.d.0");
        b.formula("mx.<d>1|<*>x").due(6);
        return b.line("C=a.'b");
    }

    /** The rest makes the line that both should have a definition. */
    private static void refused(Object answer, Making making, Refused call, String rest) {
        Bench one = making.made();
        call.by(one).due(answer);
        call.by(one);
        same(one, making.made(), rest);
    }

    private static void same(Bench one, Bench other, String rest) {
        String got = one.seenThrough(rest);
        String due = other.seenThrough(rest);
        if (!got.contains("line true2 ")) {
            Bench.fault("the line was not as it should be: " + got);
        }
        if (!got.equals(due)) {
            Bench.fault("after the refused call:\n    " + got + "\n    and without it:\n    " + due);
        }
    }

    private static void type() {
        Bench.says("Promise 2: IllegalArgumentException, before that, when one of them is not 32 .. 126; a call that throws"
                + " changes nothing");
        for (int code : new int[] {1, 31, 127, 128, 255}) {
            for (int place = 0; place < 4; place++) {
                int four = 0x302E302E & ~(255 << 8 * place) | code << 8 * place;
                refused(Bench.ARGUMENT, RefusedTest::busy, b -> b.type(four), ".0");
                refused(Bench.ARGUMENT, RefusedTest::untouched, b -> b.type(four), ".0");
                refused(Bench.ARGUMENT, () -> new Bench().line("C=a.b.c.d.a.b.c.'d.0"), b -> b.type(four), "");
            }
        }
    }

    private static void typeThatDoesNotFit() {
        Bench.says("Promise 2: False, changing nothing, when it would have more than 20.");
        String full = "C=a.b.c.d.a.b.c.'d.0";
        for (int have = 17; have <= 20; have++) {
            for (int more = 21 - have; more <= 4; more++) {
                String begun = full.substring(0, have);
                String tooMuch = "0+0+".substring(0, more);
                refused(false, () -> busyWith(begun), b -> b.type(tooMuch), full.substring(have));
                refused(false, () -> new Bench().line(begun), b -> b.type(tooMuch), full.substring(have));
            }
        }
    }

    /** As the busy one, but with another line. */
    private static Bench busyWith(String text) {
        Bench b = busy();
        b.define();
        return b.line(text);
    }

    /** The line, which an exception empties, too, is wrong in each of these ways; C and what else there is stays. */
    private static void define() {
        Bench.says("Promise 3: The line is empty then, also when an exception comes. IllegalArgumentException when it defines"
                + " none.");
        for (String text : new String[] {"", "C", "C=", "C=a", "C=a.", "C=b.0+", "C=b.0|", "C=(b.0", "C=b.0)", "C=b.0\\",
                "C=b.0[a/b", "C=b.00", "C=(((((b.0)))))", "E=b.0", "c=b.0", "A=b.0+E", "B=e.0", "D= 0", "1", "mx.x",
                "A=b.0+b.0+b.0+b.0+b."}) {
            refused(Bench.ARGUMENT, () -> busyWith(""), b -> b.line(text).define(), "C=0");
            refused(Bench.ARGUMENT, Bench::new, b -> b.line(text).define(), "C=0");
            refused(Bench.ARGUMENT, () -> Bench.with("C=c.0", "A=a.0"), b -> b.line(text).define(), "C=0");
            refused(Bench.ARGUMENT, () -> Bench.with("C=c.C"), b -> b.line(text).define(), "C=C");
            undefinedStays(text);
        }
    }

    private static void undefinedStays(String text) {
        Bench b = Bench.with("C=c.c.0");
        b.define(text).due(Bench.ARGUMENT);
        b.check(0).due(1);
        b.check(1).due(1);
        b.check(3).due(1);
        b.load(2, 2).due(3);
    }

    private static void formula() {
        Bench.says("Promise 4: The line is empty then, also when an exception comes. IllegalArgumentException when it is"
                + " none: the formula stays.");
        for (String text : new String[] {"", "2", "1|", "&1", "(1", "1)", "(((((1)))))", "<a>", "[e]1", "x", "mx.y",
                "mx.mx.x", "(mx.x)|x", " 1", "C=0", "0|0|0|0|0|0|0|0|0|", "mx.<a>x|<b>x|x&1|", "nz.mx.ny.<a>x|<b>z&"}) {
            refused(Bench.ARGUMENT, () -> busyWith(""), b -> b.line(text).formula(), "C=0");
            refused(Bench.ARGUMENT, Bench::new, b -> b.line(text).formula(), "C=0");
            refused(Bench.ARGUMENT, () -> Bench.with("C=c.0", "A=a.0"), b -> b.line(text).formula(), "C=0");
        }
    }

    private static void check() {
        Bench.says("Promise 5: IndexOutOfBoundsException when name is not 0 .. 3.");
        for (int name : ODD_NAMES) {
            refused(Bench.INDEX, RefusedTest::busy, b -> b.check(name), ".0");
            refused(Bench.INDEX, RefusedTest::untouched, b -> b.check(name), ".0");
        }
    }

    private static void loadOfNoName() {
        Bench.says("Promise 6: IndexOutOfBoundsException when one is not 0 .. 3");
        for (int name : ODD_NAMES) {
            for (int other = 0; other < 4; other++) {
                int good = other;
                refused(Bench.INDEX, RefusedTest::busy, b -> b.load(name, good), ".0");
                refused(Bench.INDEX, RefusedTest::busy, b -> b.load(good, name), ".0");
                refused(Bench.INDEX, RefusedTest::untouched, b -> b.load(good, name), ".0");
            }
            refused(Bench.INDEX, RefusedTest::busy, b -> b.load(name, name), ".0");
        }
    }

    /** As the busy one, with another definition of D, which the loaded states do not use. */
    private static Bench busyWithD(String d, String... others) {
        Bench b = busyWith("");
        b.define(d).due(3);
        for (String text : others) {
            b.define(text).due(text.charAt(0) - 'A');
        }
        return b.line("C=a.'b");
    }

    private static void loadOfWrongNames() {
        Bench.says("Promise 6: IllegalArgumentException when checking one of them does not answer 0");
        for (String d : new String[] {"D=d.C", "D=D", "D=d.D+D", "D=d.D\\a", "D=d.(D|0)"}) {
            refused(Bench.ARGUMENT, () -> busyWithD(d), b -> b.load(0, 3), ".0");
            refused(Bench.ARGUMENT, () -> busyWithD(d), b -> b.load(3, 0), ".0");
            refused(Bench.ARGUMENT, () -> busyWithD(d), b -> b.load(3, 3), ".0");
            refused(Bench.ARGUMENT, () -> busyWithD(d), b -> b.load(3, 2), ".0");
            refused(Bench.ARGUMENT, () -> Bench.with(d).line("C=0"), b -> b.load(3, 3), "+0");
        }
        refused(Bench.ARGUMENT, RefusedTest::busy, b -> b.load(2, 0), ".0");
        refused(Bench.ARGUMENT, RefusedTest::busy, b -> b.load(0, 2), ".0");
        refused(Bench.ARGUMENT, RefusedTest::untouched, b -> b.load(0, 0), ".0");
    }

    private static void loadTooLarge() {
        Bench.says("Promise 6: IllegalStateException when it is too large");
        String[][] large = {
            // States: 3 * 8 of names and steps; 5 * 5 side by side.
            {"D=a.a.a.a.a.a.a.a.A", "A=b.b.b.b.b.b.b.b.B", "B=c.c.c.c.c.c.c.c.0"},
            {"D=A|B", "A=a.a.a.a.0", "B=b.b.b.b.0"},
            // A size of 17.
            {"D=A\\b\\b\\b\\b", "A=a.(0|0|0|0|0|0|0)"},
            // Nine moves of a state, and of a term of whose moves those of a state are made.
            {"D=a.0+b.0+c.0+d.0+A", "A=B+'a.0+'b.0", "B=t.0+'c.0+'d.0"},
            {"D=(A+B+t.A)\\a", "A=a.0+b.0+c.0+d.0", "B='a.0+'b.0+'c.0+t.0"}};
        for (String[] d : large) {
            String[] others = new String[d.length - 1];
            System.arraycopy(d, 1, others, 0, others.length);
            Making making = () -> busyWithD(d[0], others);
            refused(Bench.STATE, making, b -> b.load(3, 3), ".0");
            refused(Bench.STATE, making, b -> b.load(3, 0), ".0");
            refused(Bench.STATE, making, b -> b.load(0, 3), ".0");
            refused(Bench.STATE, () -> Bench.with(d).line("C=0"), b -> b.load(3, 3), "+0");
            refused(Bench.STATE, () -> Bench.with(d).line("C=0"), b -> b.load(0, 3), "+0");
        }
    }

    private static void asksOfNoState() {
        Bench.says("Promises 9 to 14, 17 and 18: NoSuchElementException when there is no such state");
        for (int s : ODD_STATES) {
            for (Making making : new Making[] {RefusedTest::busy, RefusedTest::withoutLoading}) {
                refused(Bench.ELEMENT, making, b -> b.moves(s), ".0");
                refused(Bench.ELEMENT, making, b -> b.move(s, 0, 0), ".0");
                refused(Bench.ELEMENT, making, b -> b.move(0, s, 0), ".0");
                refused(Bench.ELEMENT, making, b -> b.move(0, 0, s), ".0");
                refused(Bench.ELEMENT, making, b -> b.size(s), ".0");
                refused(Bench.ELEMENT, making, b -> b.level(s, 0, false), ".0");
                refused(Bench.ELEMENT, making, b -> b.level(0, s, true), ".0");
                refused(Bench.ELEMENT, making, b -> b.tells(s, 0, true), ".0");
                refused(Bench.ELEMENT, making, b -> b.tells(0, s, false), ".0");
                refused(Bench.ELEMENT, making, b -> b.leader(s, false), ".0");
                refused(Bench.ELEMENT, making, b -> b.leader(s, true), ".0");
                refused(Bench.ELEMENT, making, b -> b.holds(s), ".0");
                refused(Bench.ELEMENT, making, b -> b.pairs(s), ".0");
            }
        }
    }

    private static void tellsOfAlike() {
        Bench.says("Promise 13: NoSuchElementException when there is no such state, or they are alike.");
        for (int state = 0; state < 4; state++) {
            int s = state;
            refused(Bench.ELEMENT, RefusedTest::busy, b -> b.tells(s, s, false), ".0");
            refused(Bench.ELEMENT, RefusedTest::busy, b -> b.tells(s, s, true), ".0");
        }
    }

    private static void asksWithoutFormula() {
        Bench.says("Promises 17 and 18: IllegalStateException when there is no formula, which stands first in the throws"
                + " clause");
        for (int s : new int[] {0, 3, 4, -1, Integer.MIN_VALUE}) {
            refused(Bench.STATE, RefusedTest::withoutFormula, b -> b.holds(s), ".0");
            refused(Bench.STATE, RefusedTest::withoutFormula, b -> b.pairs(s), ".0");
            refused(Bench.STATE, RefusedTest::untouched, b -> b.holds(s), ".0");
            refused(Bench.STATE, RefusedTest::untouched, b -> b.pairs(s), ".0");
        }
    }

    private static void asksWithNothingLoaded() {
        Bench.says("Promise 8: NoSuchElementException when nothing is loaded.");
        refused(Bench.ELEMENT, RefusedTest::untouched, b -> b.second(), ".0");
        refused(Bench.ELEMENT, RefusedTest::withoutLoading, b -> b.second(), ".0");
        Bench.says("Promises 15 and 16: classes and stuck throw nothing and change nothing");
        refused(0, RefusedTest::withoutLoading, b -> b.classes(false), ".0");
        refused(0, RefusedTest::withoutLoading, b -> b.classes(true), ".0");
        refused(-1, RefusedTest::withoutLoading, b -> b.stuck(), ".0");
        refused(0, RefusedTest::withoutLoading, b -> b.states(), ".0");
    }
}
