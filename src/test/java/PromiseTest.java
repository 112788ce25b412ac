import java.util.NoSuchElementException;
import java.util.Objects;

/** For each promise of the document: ordinary inputs, the edges that it names, and wrong inputs. */
public final class PromiseTest {
    private static final String INDEX = "IndexOutOfBoundsException";
    private static final String ARGUMENT = "IllegalArgumentException";
    private static final String STATE = "IllegalStateException";
    private static final String ELEMENT = "NoSuchElementException";
    private static int wrong = 0;
    private static int asked = 0;

    public static void main(String[] args) {
        newObject();
        type();
        typeAtTheLimit();
        defineAccepts();
        defineRefuses();
        defineReadsTheTermShown();
        defineKeepsAndEmpties();
        formulaCountsParts();
        formulaRefuses();
        formulaStays();
        check();
        checkAfterDefining();
        load();
        loadTooManyStates();
        loadTooLargeState();
        loadTooManyMoves();
        loadWithMuchBetween();
        loadFailingChangesNothing();
        statesAndSecond();
        movesAndMove();
        movesOfEveryKind();
        size();
        levelAndTells();
        levelAndTellsWeakly();
        leaderAndClasses();
        stuck();
        holds();
        holdsFixedPoints();
        pairs();
        System.out.println(asked + " answers asked, " + wrong + " not as due");
        if (wrong != 0) {
            System.exit(1);
        }
    }

    interface Call {
        Object answer();
    }

    private static void due(String what, Object want, Call call) {
        Object got;
        try {
            got = call.answer();
        } catch (IndexOutOfBoundsException | IllegalArgumentException | IllegalStateException
                | NoSuchElementException e) {
            got = e.getClass().getSimpleName();
        }
        asked++;
        if (!Objects.equals(got, want)) {
            wrong++;
            System.out.println(what + ": answered " + got + ", due is " + want);
        }
    }

    private static int four(String text) {
        int four = 0;
        for (int i = 0; i < text.length(); i++) {
            four |= text.charAt(i) << (8 * i);
        }
        return four;
    }

    private static void write(StepWorkbench w, String text) {
        for (int i = 0; i < text.length(); i += 4) {
            String part = text.substring(i, Math.min(i + 4, text.length()));
            due("typing " + text, true, () -> w.type(four(part)));
        }
    }

    private static void define(StepWorkbench w, Object want, String text) {
        write(w, text);
        due("define " + text, want, w::define);
    }

    private static void formula(StepWorkbench w, Object want, String text) {
        write(w, text);
        due("formula " + text, want, w::formula);
    }

    private static StepWorkbench with(String... definitions) {
        StepWorkbench w = new StepWorkbench();
        for (String d : definitions) {
            define(w, d.charAt(0) - 'A', d);
        }
        return w;
    }

    /** The moves of every state: action>state, with commas between moves and a semicolon behind each state. */
    private static String shown(StepWorkbench w) {
        StringBuilder all = new StringBuilder();
        for (int s = 0; s < w.states(); s++) {
            for (int k = 0; k < w.moves(s); k++) {
                all.append(k == 0 ? "" : ",").append(w.move(s, k, 0)).append(">").append(w.move(s, k, 1));
            }
            all.append(";");
        }
        return all.toString();
    }

    private static void graph(String want, int first, int second, String... definitions) {
        StepWorkbench w = with(definitions);
        due("moves of " + String.join(" ", definitions), want, () -> {
            w.load(first, second);
            return shown(w);
        });
    }

    private static void loaded(Object want, int first, int second, String... definitions) {
        StepWorkbench w = with(definitions);
        due("load of " + String.join(" ", definitions), want, () -> w.load(first, second));
    }

    // Promise 1
    private static void newObject() {
        StepWorkbench w = new StepWorkbench();
        due("new states", 0, w::states);
        due("new second", ELEMENT, w::second);
        due("new moves", ELEMENT, () -> w.moves(0));
        due("new move", ELEMENT, () -> w.move(0, 0, 0));
        due("new size", ELEMENT, () -> w.size(0));
        due("new level", ELEMENT, () -> w.level(0, 0, false));
        due("new tells", ELEMENT, () -> w.tells(0, 0, true));
        due("new leader", ELEMENT, () -> w.leader(0, false));
        due("new classes", 0, () -> w.classes(false));
        due("new weak classes", 0, () -> w.classes(true));
        due("new stuck", -1, w::stuck);
        due("new holds", STATE, () -> w.holds(0));
        due("new pairs", STATE, () -> w.pairs(0));
        for (int name = 0; name < 4; name++) {
            int n = name;
            due("new check", 1, () -> w.check(n));
        }
        due("new load", ARGUMENT, () -> w.load(0, 0));
        due("new define", ARGUMENT, w::define);
        due("new formula", ARGUMENT, w::formula);
    }

    // Promise 2
    private static void type() {
        StepWorkbench w = new StepWorkbench();
        due("lowest byte first", true, () -> w.type('C' | '=' << 8 | '0' << 16));
        due("a line typed lowest first", 2, w::define);
        due("nothing before the 0", true, () -> w.type(0));
        due("nothing looked at behind the 0", true, () -> w.type(0xFF010044));
        due("more", true, () -> w.type(0x1F00303D));
        due("a line of D=0", 3, w::define);
        for (int code : new int[] {1, 31, 127, 128, 255}) {
            for (int place = 0; place < 4; place++) {
                int four = (0x30303030 & ~(255 << 8 * place)) | code << 8 * place;
                due("type of code " + code, ARGUMENT, () -> w.type(four));
            }
        }
        due("type of 32", true, () -> w.type(32));
        due("type of 126", true, () -> w.type(126));
        due("nothing but those two", ARGUMENT, w::define);
        due("a", true, () -> w.type(four("B=0")));
        due("a wrong one changes nothing", ARGUMENT, () -> w.type('+' | '0' << 8 | 7 << 16));
        due("the line as before", 1, w::define);
    }

    private static void typeAtTheLimit() {
        StepWorkbench w = new StepWorkbench();
        write(w, "B=a.b.c.d.a.b.c.d.0");
        due("21 are too many", false, () -> w.type(four("+0")));
        due("wrong ones first", ARGUMENT, () -> w.type('+' | 127 << 8));
        due("nothing was put", 1, w::define);
        due("check", 0, () -> w.check(1));
        due("load", 9, () -> w.load(1, 1));
        write(w, "B=a.b.c.d.a.b.c.d.");
        due("21 would be", false, () -> w.type(four("0+0")));
        due("20 fit", true, () -> w.type(four("A+")));
        due("none fits when full", false, () -> w.type('0'));
        due("no character always fits", true, () -> w.type(0));
        due("no character always fits", true, () -> w.type(0x30303000));
        due("a wrong one when full", ARGUMENT, () -> w.type(-1));
        due("ends with +", ARGUMENT, w::define);
    }

    // Promise 3
    private static void defineAccepts() {
        StepWorkbench w = new StepWorkbench();
        for (String text : new String[] {"A=0", "B=A", "C=D", "D=t.0", "A='a.'b.'c.'d.0", "A=a.b.c.d.0", "A=0+0|0",
                "A=0\\a\\d", "A=0[a/b][d/d]\\c", "A=a.0\\b", "A=(0)", "A=((((0))))", "A=(0)|(0)+((0))",
                "A=(((0)))+((((0))))", "A=(a.0)\\a", "A=(a.0+b.B)|C[a/b]", "D=a.(b.0)", "A=A", "A=t.t.(t.A)"}) {
            define(w, text.charAt(0) - 'A', text);
        }
    }

    private static void defineRefuses() {
        StepWorkbench w = new StepWorkbench();
        for (String text : new String[] {"A", "A=", "=0", "E=0", "a=0", "A=E", "A=1", "A=a", "A=a.", "A=.0", "A=a0",
                "A=e.0", "A='t.0", "A='.0", "A=''a.0", "A='0", "A=0+", "A=+0", "A=0++0", "A=0|", "A=|0", "A=00", "A=AB",
                "A=()", "A=(0", "A=0)", "A=(0))", "A=(((((0)))))", "A=0\\", "A=0\\e", "A=0\\t", "A=0\\'a", "A=0[a/b",
                "A=0[a]", "A=0[/a]", "A=0[a/]", "A=0[e/a]", "A=0[a/t]", "A=0[ab]", "A=\\a", "A=a.\\b", "A=a\\b.0",
                " A=0", "A= 0", "A=0 ", "A==0", "AB=0", "A=0=0", "A=a.0.0", "A=0.a", "A=<a>0", "A=a.+0", "A=(a.0).0"}) {
            define(w, ARGUMENT, text);
        }
        due("nothing was defined", 1, () -> w.check(0));
    }

    private static void defineReadsTheTermShown() {
        // + binds less than |, a step takes what is behind it with its \ and [/], but neither + nor |.
        graph("1>1,2>2;;3>1;", 0, 0, "A=a.0+b.c.0");
        graph("1>1,2>2,3>3;;3>4;2>4;;", 0, 0, "A=a.0+b.0|c.0");
        graph("1>1;;", 0, 0, "A=a.0\\a");
        graph(";", 0, 0, "A=(a.0)\\a");
        graph("1>1;;", 0, 0, "A=a.(b.0)\\b");
        graph("1>1;1>2;;", 0, 0, "A=a.(b.0)[a/b]");
        // Several \ and [/] as from the left: first b becomes a, then a is shut in; and the other way round.
        graph(";", 0, 0, "A=(b.0)[a/b]\\a");
        graph("1>1;;", 0, 0, "A=(b.0)\\a[a/b]");
        // The same term, however it was bracketed, is one state.
        loaded(3, 0, 1, "A=a.(0+0+0)", "B=a.((0+0)+0)");
        loaded(4, 0, 1, "A=a.(0+0+0)", "B=a.(0+(0+0))");
        loaded(3, 0, 1, "A=a.(0|0|0)", "B=a.((0|0)|0)");
        loaded(4, 0, 1, "A=a.(0|0|0)", "B=a.(0|(0|0))");
        loaded(3, 0, 1, "A=a.0\\b[a/b]", "B=a.((0)\\b)[a/b]");
        loaded(4, 0, 1, "A=a.0\\b[a/b]", "B=a.0[a/b]\\b");
        loaded(4, 0, 1, "A=a.0[a/b]", "B=a.0[b/a]");
        loaded(4, 0, 1, "A=a.0\\a", "B=a.0\\b");
        loaded(3, 0, 1, "A=a.(0)", "B=a.0");
    }

    private static void defineKeepsAndEmpties() {
        StepWorkbench w = with("A=a.0");
        due("load", 2, () -> w.load(0, 0));
        define(w, 0, "A=a.b.(0|0)");
        due("what was loaded stays", "1>1;;", () -> shown(w));
        due("sizes stay", 1, () -> w.size(1));
        define(w, ARGUMENT, "A=a.b");
        due("the line is empty after a refusal", ARGUMENT, w::define);
        due("the definition stays after a refusal", 3, () -> w.load(0, 0));
        define(w, 0, "A=0");
        due("the line is empty after defining", ARGUMENT, w::define);
        due("the last definition counts", 1, () -> w.load(0, 0));
    }

    // Promise 4
    private static void formulaCountsParts() {
        StepWorkbench w = new StepWorkbench();
        formula(w, 1, "0");
        formula(w, 1, "1");
        formula(w, 1, "((((1))))");
        formula(w, 3, "0|1");
        formula(w, 5, "0&1|1");
        formula(w, 7, "0|1|0|1");
        formula(w, 2, "<a>1");
        formula(w, 2, "['d]0");
        formula(w, 3, "<*>[t]1");
        formula(w, 4, "<a>1&0");
        formula(w, 2, "mx.x");
        formula(w, 6, "nz.mx.<'b>z|x");
        formula(w, 7, "mx.(ny.y&x)|x");
        formula(w, 6, "<a>(<b>1&<c>1)");
        formula(w, 6, "mx.ny.mz.x&y");
        formula(w, 19, "1|1|1|1|1|1|1|1|1|1");
        formula(w, 4, "(mx.x)&1");
        formula(w, 5, "(mx.x)&(ny.1)");
    }

    private static void formulaRefuses() {
        StepWorkbench w = new StepWorkbench();
        for (String text : new String[] {"2", "x", "mx.y", "m.x", "mx", "mx.", "mxx", "ma.1", "kx.x", "1|", "|1", "1&",
                "&1", "1&&1", "11", "()", "(1", "1)", "(((((1)))))", "<a>", "<a1", "a>1", "<>1", "<e>1", "<'t>1",
                "<''a>1", "<'*>1", "[a>1", "<a]1", "[a]", "[**]1", "<a>mx.x", "1|mx.x", "mx.1|ny.y", "mx.mx.x",
                "mx.nx.x", "(mx.x)|x", "(mx.x)|(nx.x)", "x|(mx.x)", "(mx.1)&(mx.1)", " 1", "1 ", "mx. x", "A", "<A>1",
                "1+1", "mx.(ny.x)&y", "(1)(1)", "mx.x.1", "<a.1", "mw.1", "mx1",
                "mx.ny1", "mx.ny.mx.1", "mx.ny.mz.nx.1", "(mx.x)&y", "mx.(ny.y)&y", "mx.2", "x", "(mx.1)&(ny.1)&x"}) {
            formula(w, ARGUMENT, text);
        }
        due("there is no formula", STATE, () -> w.holds(0));
    }

    private static void formulaStays() {
        StepWorkbench w = with("A=a.0");
        due("load", 2, () -> w.load(0, 0));
        formula(w, 2, "<a>1");
        due("the line is empty then", ARGUMENT, w::formula);
        formula(w, ARGUMENT, "1|1|1|1|1|1|1|");
        due("the line is empty after a refusal", ARGUMENT, w::formula);
        due("the formula stays: holds", true, () -> w.holds(0));
        due("the formula stays: holds not", false, () -> w.holds(1));
        due("the formula stays: pairs", 2, () -> w.pairs(0));
        formula(w, 1, "0");
        due("the next formula", false, () -> w.holds(0));
        formula(w, ARGUMENT, "1|");
        due("the next formula stays", 1, () -> w.pairs(0));
    }

    // Promise 5
    private static void checked(int want, int name, String... definitions) {
        StepWorkbench w = with(definitions);
        due("check of " + String.join(" ", definitions), want, () -> w.check(name));
    }

    private static void check() {
        StepWorkbench w = with("A=0");
        due("check(-1)", INDEX, () -> w.check(-1));
        due("check(4)", INDEX, () -> w.check(4));
        due("check of the least", INDEX, () -> w.check(Integer.MIN_VALUE));
        checked(0, 0, "A=0");
        checked(0, 3, "D=0");
        checked(1, 1, "A=0");
        checked(1, 0, "A=a.B");
        checked(1, 0, "A=a.B", "B=b.C", "C=c.D");
        checked(0, 0, "A=a.B", "B=b.C", "C=c.D", "D=d.A");
        checked(1, 0, "A=A+B");
        checked(1, 0, "A=a.B+a.C", "C=0");
        checked(1, 0, "A=a.C+a.B", "C=0");
        checked(2, 0, "A=A+B", "B=0");
        checked(2, 0, "A=B+A", "B=0");
        checked(3, 0, "A=a.(A|B)", "B=0");
        checked(3, 0, "A=a.(B|A)", "B=0");
        checked(3, 0, "A=a.A\\a+a.A");
        checked(3, 0, "A=a.A+a.A\\a");
        checked(2, 0, "A=A");
        checked(2, 0, "A=a.0+A");
        checked(2, 0, "A=A|a.0");
        checked(2, 0, "A=A\\a");
        checked(2, 0, "A=(A)[a/b]");
        checked(2, 0, "A=B", "B=C", "C=A");
        checked(2, 0, "A=a.B", "B=B");
        checked(2, 0, "A=a.B|B", "B=a.0+B");
        checked(0, 1, "A=A", "B=b.0");
        checked(0, 0, "A=a.A");
        checked(0, 0, "A=a.(A+b.0)");
        checked(0, 0, "A=B", "B=a.A");
        checked(0, 0, "A=B+C", "B=C", "C=a.A");
        checked(2, 0, "A=a.A+B", "B=b.0+A");
        checked(3, 0, "A=a.(A|0)");
        checked(3, 0, "A=a.(0|b.A)");
        checked(3, 0, "A=a.A\\b");
        checked(3, 0, "A=a.A[a/b]");
        checked(3, 0, "A=(a.A)\\b");
        checked(3, 0, "A=a.(B|0)", "B=b.A");
        checked(3, 0, "A=B\\a", "B=b.A");
        checked(3, 1, "A=B\\a", "B=b.A");
        checked(3, 2, "A=B\\a", "B=b.A", "C=A");
        checked(3, 2, "A=B[a/a]", "B=b.D", "C=c.A", "D=d.A");
        checked(0, 0, "A=B|B", "B=b.B");
        checked(0, 0, "A=B\\a|B[a/b]", "B=b.C", "C=c.B");
        checked(0, 2, "A=a.A\\a", "C=c.0");
        checked(0, 0, "A=a.(0|0)+a.A");
    }

    private static void checkAfterDefining() {
        StepWorkbench w = with("A=a.A\\b", "B=A");
        due("3 first", 3, () -> w.check(1));
        define(w, 0, "A=C");
        due("1 then", 1, () -> w.check(0));
        define(w, 0, "A=0");
        due("an old name counts no more", 0, () -> w.check(0));
        define(w, 0, "A=A");
        due("2 then", 2, () -> w.check(0));
        define(w, 0, "A=a.A");
        due("an old open name counts no more", 0, () -> w.check(0));
        define(w, 0, "A=a.A");
        due("0 when mended", 0, () -> w.check(1));
        define(w, 0, "A=B");
        due("2 when spoilt", 2, () -> w.check(1));
        define(w, 0, "A=B|C");
        due("1 when spoilt more", 1, () -> w.check(1));
        define(w, ARGUMENT, "A=");
        due("as before after a refusal", 1, () -> w.check(1));
    }

    // Promise 6
    private static void load() {
        StepWorkbench w = with("A=a.b.A", "B=B", "D=d.0");
        due("first below", INDEX, () -> w.load(-1, 0));
        due("first above", INDEX, () -> w.load(4, 0));
        due("second below", INDEX, () -> w.load(0, -1));
        due("second above", INDEX, () -> w.load(0, 4));
        due("index before check", INDEX, () -> w.load(1, 4));
        due("first checked", ARGUMENT, () -> w.load(1, 0));
        due("second checked", ARGUMENT, () -> w.load(0, 1));
        due("second not defined", ARGUMENT, () -> w.load(0, 2));
        due("nothing loaded by all that", 0, w::states);
        due("load", 4, () -> w.load(0, 3));
        due("moves", "1>1;2>0;4>3;;", () -> shown(w));
        due("load the other way round", 4, () -> w.load(3, 0));
        due("moves", "4>1;;1>3;2>2;", () -> shown(w));
        due("load one twice", 2, () -> w.load(0, 0));
        due("moves", "1>1;2>0;", () -> shown(w));
        // Breadth first, in the order of the moves; the second name may be a state already.
        graph("1>1,2>2;3>3;4>4;;1>2;", 0, 0, "A=a.B+b.C", "B=c.0", "C=d.D", "D=a.C");
        graph("1>1;2>0;", 0, 1, "A=a.B", "B=b.A");
        graph("1>1;2>0;3>0;", 0, 2, "A=a.B", "B=b.A", "C=c.A");
    }

    private static void loadTooManyStates() {
        String a = "A=a.a.a.a.a.a.a.a.B";
        String b = "B=a.a.a.a.a.a.a.a.C";
        loaded(20, 0, 0, a, b, "C=a.a.a.0");
        loaded(STATE, 0, 0, a, b, "C=a.a.a.a.0");
        loaded(20, 0, 2, a, b, "C=a.a.a.0");
        loaded(STATE, 0, 3, a, b, "C=a.a.a.0", "D=0");
    }

    private static void loadTooLargeState() {
        loaded(6, 0, 0, "A=B|C", "B=a.(0|0|0|0)", "C=a.b.(0|0|0|0)");
        loaded(STATE, 0, 0, "A=B|C", "B=a.(0|0|0|0)", "C=a.b.b.(0|0|0|0)");
    }

    private static void loadTooManyMoves() {
        String a = "A=a.0+b.0+c.0+d.0+B";
        String b = "B='a.0+'b.0+'c.0+C";
        loaded(2, 0, 0, a, b, "C='d.0");
        loaded(2, 0, 0, a, b, "C='d.0+'d.0+a.0");
        loaded(STATE, 0, 0, a, b, "C='d.0+t.0");
        // A term of whose moves those of a state are made counts, too; one that is not come to does not.
        loaded(STATE, 3, 3, a, b, "C='d.0+t.0", "D=A\\a\\b");
        loaded(STATE, 3, 3, a, b, "C='d.0+t.0", "D=0|(A\\a)\\b");
        loaded(STATE, 3, 3, a, b, "C='d.0+t.0", "D=A\\a\\b|0");
        loaded(STATE, 3, 3, a, b, "C='d.0+t.0", "D=(0+A)[a/b][b/c]");
        loaded(STATE, 3, 3, a, b, "C='d.0+t.0", "D=b.A");
        loaded(1, 3, 3, a, b, "C='d.0+t.0", "D=(b.A)\\b");
    }

    /** Loadings that work out far more terms and moves than their states have. */
    private static void loadWithMuchBetween() {
        loaded(20, 0, 1, "A=d.0+(D|D)\\a+c.c.0", "B='d.a.B", "C=D[a/d]", "D=c.0|'a.0|d.0");
        loaded(16, 0, 1, "A=(C|B)\\a", "B=(C|C)\\b+'a.B", "C=D[b/a]", "D=b.0+a.D+t.D");
        loaded(1, 0, 0, "A=B|B|B|B|B|B|B|B|B", "B=C|C|C|C|C|C|C|C|C", "C=D|D|D|D|D|D|D|D|D", "D=0|0|0|0|0|0|0|0|0");
        loaded(1, 0, 0, "A=B\\a\\a\\a\\a\\a\\a\\a\\a", "B=C\\a\\a\\a\\a\\a\\a\\a\\a",
                "C=D\\a\\a\\a\\a\\a\\a\\a\\a", "D=0\\a\\a\\a\\a\\a\\a\\a\\a");
    }

    private static void loadFailingChangesNothing() {
        StepWorkbench w = with("A=a.t.0", "B=a.a.a.a.a.a.a.a.C", "C=a.a.a.a.a.a.a.a.D", "D=a.a.a.a.a.a.a.a.0");
        due("load", 3, () -> w.load(0, 0));
        formula(w, 2, "<a>1");
        due("too large", STATE, () -> w.load(1, 0));
        due("too large with the second", STATE, () -> w.load(0, 1));
        due("argument", INDEX, () -> w.load(0, 9));
        due("states", 3, w::states);
        due("second", 0, w::second);
        due("moves", "1>1;0>2;;", () -> shown(w));
        due("classes", 2, () -> w.classes(true));
        due("stuck", 2, w::stuck);
        due("holds", true, () -> w.holds(0));
        due("holds not", false, () -> w.holds(1));
    }

    // Promises 7 and 8
    private static void statesAndSecond() {
        StepWorkbench w = with("A=a.b.A", "B=b.A", "C=0");
        due("none before", 0, w::states);
        due("load", 3, () -> w.load(0, 2));
        due("states", 3, w::states);
        due("second is the last", 2, w::second);
        due("load", 3, () -> w.load(0, 1));
        due("second is a name, not its term", 2, w::second);
        due("load", 3, () -> w.load(1, 0));
        due("second among the first's", 1, w::second);
        due("load", 2, () -> w.load(0, 0));
        due("second is the first", 0, w::second);
        due("states", 2, w::states);
    }

    // Promises 9 and 10
    private static void movesAndMove() {
        StepWorkbench w = with("A='d.0+a.A");
        due("load", 2, () -> w.load(0, 0));
        due("moves", 2, () -> w.moves(0));
        due("no moves", 0, () -> w.moves(1));
        due("no state below", ELEMENT, () -> w.moves(-1));
        due("no state above", ELEMENT, () -> w.moves(2));
        due("action", 8, () -> w.move(0, 0, 0));
        due("target", 1, () -> w.move(0, 0, 1));
        due("action", 1, () -> w.move(0, 1, 0));
        due("target", 0, () -> w.move(0, 1, 1));
        due("no what below", ELEMENT, () -> w.move(0, 0, -1));
        due("no what above", ELEMENT, () -> w.move(0, 0, 2));
        due("no move below", ELEMENT, () -> w.move(0, -1, 0));
        due("no move above", ELEMENT, () -> w.move(0, 2, 0));
        due("no move", ELEMENT, () -> w.move(1, 0, 0));
        due("no state below", ELEMENT, () -> w.move(-1, 0, 0));
        due("no state above", ELEMENT, () -> w.move(2, 0, 0));
        due("far off", ELEMENT, () -> w.move(Integer.MAX_VALUE, Integer.MIN_VALUE, 0));
    }

    private static void movesOfEveryKind() {
        graph(";", 0, 0, "A=0");
        graph("0>1,1>1,2>1,3>1,4>1;;", 0, 0, "A=t.0+a.0+b.0+B", "B=c.0+d.0");
        graph("5>1,6>1,7>1,8>1;;", 0, 0, "A='a.0+'b.0+B", "B='c.0+'d.0");
        graph("1>1;1>1;", 0, 0, "A=B", "B=a.B");
        graph("1>1;;", 0, 0, "A=a.0+a.0");
        graph("1>1,2>1,1>2;;;", 0, 0, "A=a.0+b.0+a.B", "B=0");
        graph("1>1,5>2,0>3;5>3;1>3;;", 0, 0, "A=a.0|'a.0");
        graph("5>1,1>2,0>3;1>3;5>3;;", 0, 0, "A='a.0|a.0");
        graph("0>1,0>2;0>3;0>3;;", 0, 0, "A=t.0|t.0");
        graph("1>1,1>2;1>3;1>3;;", 0, 0, "A=a.0|a.0");
        graph("1>1,6>2;6>3;1>3;;", 0, 0, "A=a.0|'b.0");
        graph("0>1;;", 0, 0, "A=(a.0|'a.0)\\a");
        graph("4>1,8>2,0>3;8>3;4>3;;", 0, 0, "A=d.0|'d.0");
        graph("8>1,4>2,0>3;4>3;8>3;;", 0, 0, "A='d.0|d.0");
        graph("1>1;;", 0, 0, "A=(a.0+'d.0+d.0)\\d");
        graph("1>1,5>1;;", 0, 0, "A=(d.0+'d.0)[a/d]");
        graph("4>1,8>1;;", 0, 0, "A=(a.0+'a.0)[d/a]");
        graph("3>1;;", 0, 0, "A=(c.0+'b.0+b.0)\\b");
        graph("3>1,7>1;;", 0, 0, "A=(a.0+'a.0)[c/a]");
        graph("1>1;;", 0, 0, "A=(a.0)[c/b]");
        graph("2>1;;", 0, 0, "A=(a.0+b.0)[b/a]");
        graph("0>1;;", 0, 0, "A=(t.0)[b/a]\\a");
        firstRow("1>1,2>2,6>3,5>4,0>5,0>6;", "A=B|C", "B=a.0+b.D", "C='b.0+'a.D", "D=d.0");
    }

    private static void firstRow(String want, String... definitions) {
        StepWorkbench w = with(definitions);
        due("first row of " + String.join(" ", definitions), want, () -> {
            w.load(0, 0);
            String all = shown(w);
            return all.substring(0, all.indexOf(';') + 1);
        });
    }

    // Promise 11
    private static void size() {
        StepWorkbench w = with("A=a.B+b.(0|C\\a[a/b])", "B=c.d.(0+0)", "C=0");
        due("load", 5, () -> w.load(0, 0));
        due("a name", 1, () -> w.size(0));
        due("a name", 1, () -> w.size(1));
        due("0|C\\a[a/b]", 5, () -> w.size(2));
        due("d.(0+0)", 4, () -> w.size(3));
        due("0+0", 3, () -> w.size(4));
        due("no state below", ELEMENT, () -> w.size(-1));
        due("no state above", ELEMENT, () -> w.size(5));
    }

    // Promises 12 and 13
    private static void parted(int level, Object action, boolean weakly, String a, String b) {
        StepWorkbench w = with(a, b, "C=c.0");
        String what = a + " " + b + (weakly ? " weakly" : "");
        due(what, true, () -> w.load(0, 1) > 0);
        due("level of " + what, level, () -> w.level(0, w.second(), weakly));
        due("level back of " + what, level, () -> w.level(w.second(), 0, weakly));
        due("tells of " + what, action, () -> w.tells(0, w.second(), weakly));
        due("tells back of " + what, action, () -> w.tells(w.second(), 0, weakly));
    }

    private static void levelAndTells() {
        parted(0, ELEMENT, false, "A=a.A", "B=a.a.B");
        parted(0, ELEMENT, false, "A=a.0+a.0", "B=a.(0|0)");
        parted(1, 1, false, "A=a.0", "B=b.0");
        parted(1, 2, false, "A=a.0+b.0", "B=a.0");
        parted(1, 4, false, "A='a.0+d.0", "B='a.0");
        parted(1, 0, false, "A=t.0+a.0", "B=0");
        parted(2, 1, false, "A=a.(b.0+c.0)", "B=a.b.0+a.c.0");
        parted(2, 1, false, "A=a.b.0+b.b.0", "B=a.0+b.0");
        parted(3, 5, false, "A='a.b.c.0", "B='a.b.d.0");
        parted(8, 1, false, "A=a.a.a.a.a.a.a.a.0", "B=a.a.a.a.a.a.a.0");
        parted(1, 0, false, "A=a.0", "B=t.a.0");
        StepWorkbench back = with("A=b.B", "B=a.A+a.C", "C=c.0", "D=a.C");
        due("load", 5, () -> back.load(0, 3));
        due("one more a, back to the first state", 2, () -> back.level(1, back.second(), false));
        due("told by a", 1, () -> back.tells(1, back.second(), false));
        StepWorkbench w = with("A=a.0");
        due("load", 2, () -> w.load(0, 0));
        due("a state and itself", 0, () -> w.level(1, 1, false));
        due("a state and itself", ELEMENT, () -> w.tells(1, 1, false));
        due("two states", 1, () -> w.level(0, 1, true));
        for (int odd : new int[] {-1, 2, Integer.MAX_VALUE}) {
            due("no state", ELEMENT, () -> w.level(odd, 0, false));
            due("no state", ELEMENT, () -> w.level(0, odd, true));
            due("no state", ELEMENT, () -> w.tells(odd, 0, true));
            due("no state", ELEMENT, () -> w.tells(0, odd, false));
        }
    }

    private static void levelAndTellsWeakly() {
        parted(0, ELEMENT, true, "A=a.0", "B=t.a.t.t.0");
        parted(0, ELEMENT, true, "A=t.A", "B=0");
        parted(0, ELEMENT, true, "A=a.A", "B=a.t.B+t.a.B");
        parted(2, 0, true, "A=a.0+t.b.0", "B=a.0+b.0");
        parted(0, ELEMENT, true, "A=a.(b.0+t.C)+a.C", "B=a.(b.0+t.C)");
        parted(2, 1, true, "A=a.(b.0+C)", "B=a.b.0+a.C");
        parted(1, 1, true, "A=t.a.0", "B=t.b.0");
        parted(1, 3, true, "A=a.0+t.C", "B=a.0");
    }

    // Promises 14 and 15
    private static void leaderAndClasses() {
        StepWorkbench w = with("A=a.t.A", "B=a.B", "C=t.A");
        due("load", 3, () -> w.load(0, 1));
        due("open classes", 3, () -> w.classes(false));
        due("weak classes", 1, () -> w.classes(true));
        due("leader openly", 2, () -> w.leader(2, false));
        due("leader weakly", 0, () -> w.leader(2, true));
        due("load", 3, () -> w.load(2, 0));
        due("alike: C and t.A", 2, () -> w.classes(false));
        due("leader of t.A", 0, () -> w.leader(2, false));
        due("leader of A", 1, () -> w.leader(1, false));
        due("leader of C", 0, () -> w.leader(0, false));
        due("no state below", ELEMENT, () -> w.leader(-1, true));
        due("no state above", ELEMENT, () -> w.leader(3, false));
        due("weakly all are alike", 1, () -> w.classes(true));
        due("another load", 1, () -> w.load(1, 1));
        due("open classes", 1, () -> w.classes(false));
        due("weak classes", 1, () -> w.classes(true));
        define(w, 2, "C=a.0");
        due("another load", 3, () -> w.load(1, 2));
        due("weak classes asked anew", 3, () -> w.classes(true));
        due("open classes asked anew", 3, () -> w.classes(false));
        due("levels asked anew", 1, () -> w.level(0, 2, false));
        define(w, 2, "C=a.a.C");
        due("another load", 3, () -> w.load(1, 2));
        due("no level of old stays", 0, () -> w.level(0, 2, false));
        due("no weak level of old stays", 0, () -> w.level(0, 2, true));
        due("all are alike", 0, () -> w.leader(2, true));
    }

    // Promise 16
    private static void stuckAfter(int want, int first, int second, String... definitions) {
        StepWorkbench w = with(definitions);
        due("load of " + String.join(" ", definitions), true, () -> w.load(first, second) > 0);
        due("stuck of " + String.join(" ", definitions), want, w::stuck);
    }

    private static void stuck() {
        stuckAfter(0, 0, 0, "A=0");
        stuckAfter(0, 0, 0, "A=(a.0)\\a");
        stuckAfter(2, 0, 0, "A=a.b.0");
        stuckAfter(1, 0, 0, "A=a.b.0+t.0");
        stuckAfter(2, 0, 0, "A=a.b.c.0+t.B", "B=b.0");
        stuckAfter(-1, 0, 0, "A=a.A");
        stuckAfter(-1, 0, 1, "A=a.A", "B=0");
        stuckAfter(1, 0, 1, "A=a.0", "B=0");
        stuckAfter(19, 0, 0, "A=a.a.a.a.a.a.a.a.B", "B=a.a.a.a.a.a.a.a.C", "C=a.a.a.0");
    }

    // Promise 17
    private static void asked(String want, String text, String... definitions) {
        StepWorkbench w = with(definitions);
        write(w, text);
        due("formula " + text, true, () -> w.formula() > 0);
        due(text + " of " + String.join(" ", definitions), want, () -> {
            w.load(0, 1);
            StringBuilder all = new StringBuilder();
            for (int s = 0; s < w.states(); s++) {
                all.append(w.holds(s) ? '1' : '0');
            }
            return all.toString();
        });
    }

    private static void holds() {
        StepWorkbench w = with("A=a.0");
        due("no formula comes first", STATE, () -> w.holds(-1));
        due("load", 2, () -> w.load(0, 0));
        due("no formula", STATE, () -> w.holds(0));
        formula(w, 1, "1");
        due("no state below", ELEMENT, () -> w.holds(-1));
        due("no state above", ELEMENT, () -> w.holds(2));
        due("a state", true, () -> w.holds(1));
        StepWorkbench unloaded = new StepWorkbench();
        formula(unloaded, 1, "1");
        due("nothing loaded", ELEMENT, () -> unloaded.holds(0));
        // States: A, b.0, c.0, 0, B
        String a = "A=a.b.0+a.c.0";
        String b = "B=t.0";
        asked("00000", "0", a, b);
        asked("11111", "1", a, b);
        asked("10000", "<a>1", a, b);
        asked("10000", "<a><b>1", a, b);
        asked("01111", "[a]<b>1", a, b);
        asked("11011", "[c]0", a, b);
        asked("00001", "<t>1", a, b);
        asked("11101", "<*>1", a, b);
        asked("00010", "[*]0", a, b);
        asked("01100", "<b>1|<c>1", a, b);
        asked("00000", "<b>1&<c>1", a, b);
        asked("10000", "<a><b>1&<a><c>1", a, b);
        asked("01001", "<b>1|<c>1&<b>1|<t>1", a, b);
        asked("00000", "(<b>1|<c>1)&<a>1", a, b);
        asked("10000", "<a>(<b>1|<c>1)", a, b);
        asked("11", "<'a>1", "A='a.A", "B='a.B");
        asked("01", "<a>1", "A='a.A", "B=a.B");
    }

    private static void holdsFixedPoints() {
        String loop = "A=a.A+b.B";
        String end = "B=b.0+b.B";
        asked("111", "mx.[*]0|<*>x", loop, end);
        asked("011", "mx.[*]0|<b>x&[a]x", loop, end);
        asked("110", "nx.<*>x", loop, end);
        asked("100", "nx.<a>x", loop, end);
        asked("000", "mx.<a>x", loop, end);
        asked("000", "mx.x", loop, end);
        asked("111", "nx.x", loop, end);
        asked("001", "mx.[*]x", loop, end);
        asked("111", "nx.[*]x", loop, end);
        // Infinitely often b, and from some time on only b, on a circle of a and b with a b-loop at one state.
        asked("11", "nx.my.<b>x|<a>y", "A=a.B", "B=b.A");
        asked("00", "mx.ny.<a>x|<b>y", "A=a.B", "B=b.A");
        asked("11", "mx.ny.<a>x|<b>y", "A=a.B", "B=b.B");
        asked("11", "nx.my.[b]x&[a]y", "A=a.B", "B=b.A");
        asked("00", "nx.my.<b>x|<a>y", "A=a.B", "B=a.A");
        asked("11", "nz.mx.ny.<a>x|<b>z", "A=a.B", "B=b.A");
        asked("11", "(mx.<b>1|<a>x)&1", "A=a.B", "B=b.A");
        StepWorkbench w = with("A=a.0", "B=b.b.B");
        formula(w, 2, "<b>1");
        due("load", 2, () -> w.load(0, 0));
        due("before", false, () -> w.holds(0));
        due("load another", 2, () -> w.load(1, 1));
        due("the formula asked anew", true, () -> w.holds(0));
    }

    // Promise 18
    private static void paired(int want, int s, String text, String... definitions) {
        StepWorkbench w = with(definitions);
        write(w, text);
        due("formula " + text, true, () -> w.formula() > 0);
        due("load", true, () -> w.load(0, 0) > 0);
        due("pairs of " + text, want, () -> w.pairs(s));
    }

    private static void pairs() {
        StepWorkbench w = with("A=a.0");
        due("no formula comes first", STATE, () -> w.pairs(9));
        formula(w, 1, "1");
        due("nothing loaded", ELEMENT, () -> w.pairs(0));
        due("load", 2, () -> w.load(0, 0));
        due("no state below", ELEMENT, () -> w.pairs(-1));
        due("no state above", ELEMENT, () -> w.pairs(2));
        due("one pair", 1, () -> w.pairs(1));
        paired(3, 0, "1&1", "A=a.0");
        paired(5, 0, "0|1&1", "A=a.0");
        paired(2, 0, "<a>1", "A=a.0");
        paired(1, 1, "<a>1", "A=a.0");
        paired(1, 0, "[b]1", "A=a.0");
        paired(2, 0, "[*]1", "A=a.0");
        // From A, [*] leads to both of 0 and b.0, and <b> on from the second alone.
        paired(4, 0, "[*]<b>1", "A=a.0+a.b.0");
        paired(2, 0, "mx.x", "A=a.0");
        // m at both states, <a> at both, x at the second.
        paired(5, 0, "mx.<a>x", "A=a.0");
        paired(3, 0, "nx.<a>x", "A=a.A");
        paired(2, 1, "mx.<a>x", "A=a.0");
        // All 7 parts at each of 3 states but for x at A, which nothing leads to.
        paired(20, 0, "mx.0|1|<*>x", "A=a.b.0");
        paired(8, 0, "nx.my.<b>x", "A=b.B", "B=b.A");
        paired(4, 0, "(mx.x)&1", "A=0");
        StepWorkbench twice = with("A=a.b.0");
        formula(twice, 6, "mx.<a>x|<b>1");
        due("load", 3, () -> twice.load(0, 0));
        due("from A: m | <a> <b> at A and b.0, x at b.0, 1 at 0", 10, () -> twice.pairs(0));
        due("from 0: m | <a> <b>", 4, () -> twice.pairs(2));
        due("from b.0: m | <a> <b>, 1 at 0", 5, () -> twice.pairs(1));
        due("from A again", 10, () -> twice.pairs(0));
        // x is met at B alone and y at A alone, the other five parts at both.
        paired(12, 0, "nx.my.<a>x|<b>y", "A=a.B", "B=b.A");
    }
}
