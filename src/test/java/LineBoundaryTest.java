/** The boundaries of the line, of what defines a name and of what is a formula: promises 1 to 4. */
public final class LineBoundaryTest {
    // Twenty characters: a line that is full and defines A, which has nine states.
    private static final String FULL = "A=a.b.c.d.a.b.c.'d.0";
    private static final String FULL_FORMULA = "nx.my.nz.<a>x|<t>y&z";

    public static void main(String[] args) {
        newObject();
        lineOfTwenty();
        lineOfTwentyOneByOne();
        bytesUpToTheFirstZero();
        codesOfCharacters();
        wrongCodesBeforeAFullLine();
        charactersOfADefinition();
        blanksInADefinition();
        oneOrMore();
        bracketsOfATerm();
        fromTheLeft();
        bracketsAreNoPart();
        sizes();
        numbersOfNames();
        lineEmptyAfterDefine();
        charactersOfAFormula();
        blanksInAFormula();
        oneOrMoreOfAFormula();
        bracketsOfAFormula();
        partsOfAFormula();
        variablesWhereTheyStand();
        variablesBoundTwice();
        bindersWhereTheyStand();
        lineEmptyAfterFormula();
        refusedLinesLeaveNothing();
        Bench.finish();
    }

    private static void newObject() {
        Bench.says("Promise 1: Nothing is defined, nothing is loaded, there is no formula; the line is empty.");
        for (int name = 0; name < 4; name++) {
            new Bench().check(name).due(1);
            new Bench().load(name, name).due(Bench.ARGUMENT);
        }
        new Bench().states().due(0);
        new Bench().second().due(Bench.ELEMENT);
        new Bench().classes(false).due(0);
        new Bench().classes(true).due(0);
        new Bench().stuck().due(-1);
        new Bench().holds(0).due(Bench.STATE);
        new Bench().pairs(0).due(Bench.STATE);
        new Bench().define().due(Bench.ARGUMENT);
        new Bench().formula().due(Bench.ARGUMENT);
        new Bench().define(FULL).due(0);
    }

    private static void lineOfTwenty() {
        Bench.says("Terms: There is a LINE that is typed, of at most 20 characters.\n"
                + "Promise 2: False, changing nothing, when it would have more than 20.");
        for (int have = 14; have <= 20; have++) {
            for (int more = 0; more <= 4; more++) {
                Bench b = new Bench().line(FULL.substring(0, have));
                boolean fits = have + more <= 20;
                b.type((FULL + "++++").substring(have, have + more)).due(fits);
                b.line(FULL.substring(fits ? have + more : have));
                b.type("+").due(false);
                b.type("++++").due(false);
                b.define().due(0);
                b.load(0, 0).due(9);
                b.move(7, 0, 0).due(8);
            }
        }
    }

    private static void lineOfTwentyOneByOne() {
        Bench.says("Terms: There is a LINE that is typed, of at most 20 characters.");
        Bench b = new Bench();
        for (int i = 0; i < 20; i++) {
            b.type(FULL.substring(i, i + 1)).due(true);
        }
        b.type("0").due(false);
        b.type("0").due(false);
        b.define().due(0);
        b.load(0, 0).due(9);
        new Bench().define(FULL.substring(0, 16) + "d.A").due(0);
        new Bench().formula(FULL_FORMULA).due(10);
        new Bench().formula(FULL_FORMULA.substring(0, 18)).due(8);
    }

    private static void bytesUpToTheFirstZero() {
        Bench.says("Promise 2: The characters whose codes are the bytes of four, the lowest byte first, up to the first"
                + " that is 0 (it and what is behind it are not looked at; there may be none before it), are put at the"
                + " end of the line: true.");
        Bench b = new Bench();
        for (int behind : new int[] {0, 0x41, 0xFF, 0x1F, 0x7F, 0x80}) {
            b.type(behind << 8 | behind << 16 | behind << 24).due(true);
            b.type('D' | behind << 16 | behind << 24).due(true);
            b.type('=' | 'a' << 8 | behind << 24).due(true);
            b.type('.' | 'b' << 8 | '.' << 16).due(true);
            b.type('c' | '.' << 8 | 'd' << 16 | '.' << 24).due(true);
            b.type('0' | behind << 16).due(true);
            b.define().due(3);
            b.load(3, 3).due(5);
            b.shown().due("1>1;2>2;3>3;4>4;;");
        }
        Bench full = new Bench().line(FULL);
        full.type(0).due(true);
        full.type(0x41414100).due(true);
        full.type(0xFFFFFF00).due(true);
        full.define().due(0);
        full.load(0, 0).due(9);
    }

    private static void codesOfCharacters() {
        Bench.says("Promise 2: IllegalArgumentException, before that, when one of them is not 32 .. 126.");
        for (int place = 0; place < 4; place++) {
            for (int code = 0; code < 256; code++) {
                int others = 0x7E207E20 & ~(255 << 8 * place);
                boolean right = code == 0 || code >= 32 && code <= 126;
                Bench b = new Bench();
                b.type(others | code << 8 * place).due(right ? true : Bench.ARGUMENT);
                b.define("B=0").due(right && (place != 0 || code != 0) ? Bench.ARGUMENT : 1);
            }
        }
        new Bench().type(Integer.MIN_VALUE).due(true);
        new Bench().type(-1).due(Bench.ARGUMENT);
        new Bench().type(Integer.MAX_VALUE).due(Bench.ARGUMENT);
    }

    private static void wrongCodesBeforeAFullLine() {
        Bench.says("Promise 2: IllegalArgumentException, before that, when one of them is not 32 .. 126.");
        for (int have = 16; have <= 20; have++) {
            for (int place = 0; place < 4; place++) {
                for (int wrong : new int[] {31, 127}) {
                    Bench b = new Bench().line(FULL.substring(0, have));
                    b.type(0x30303030 & ~(255 << 8 * place) | wrong << 8 * place).due(Bench.ARGUMENT);
                    b.define(FULL.substring(have)).due(0);
                    b.load(0, 0).due(9);
                }
            }
        }
    }

    /** Of all characters just these, put between the two texts, make a line that defines a name. */
    private static void define(String fitting, String before, String behind) {
        for (char c = 32; c <= 126; c++) {
            String text = before + c + behind;
            boolean fits = fitting.indexOf(c) >= 0;
            new Bench().define(text).due(fits ? text.charAt(0) - 'A' : Bench.ARGUMENT);
        }
    }

    private static void charactersOfADefinition() {
        Bench.says("Terms: A line defines one when it is a name, =, and a SUM (no blanks)");
        define("ABCD", "", "=0");
        define("=", "A", "0");
        define("0ABCD", "A=", "");
        Bench.says("Terms: 0 is INNER (written t); 1 .. 4 are written a .. d, 5 .. 8 'a .. 'd");
        define("abcdt", "A=", ".0");
        define("abcd", "A='", ".0");
        define("'", "A=", "a.0");
        define("", "A=", "t.0");
        Bench.says("Terms: a row is one or more STEPS with | between");
        define("+|", "A=0", "0");
        Bench.says("Terms: a step is an action, a dot and a step, or a PIECE");
        define(".", "A=a", "0");
        define("abcdt", "A=a.", ".0");
        define("0ABCD", "A=a.", "");
        Bench.says("Terms: any number (also none) of \\x or [y/x] behind it, x and y being letters a .. d");
        define("\\", "A=0", "a");
        define("abcd", "A=0\\", "");
        define("abcd", "A=0[", "/a]");
        define("abcd", "A=0[a/", "]");
        define("[", "A=0", "a/b]");
        define("/", "A=0[a", "b]");
        define("]", "A=0[a/b", "");
        define("(", "A=", "0)");
        define(")", "A=(0", "");
    }

    private static void blanksInADefinition() {
        Bench.says("Terms: A line defines one when it is a name, =, and a SUM (no blanks)");
        String text = "A=(a.0+'b.B)\\c[d/a]";
        new Bench().define(text).due(0);
        for (int at = 0; at <= text.length(); at++) {
            new Bench().define(text.substring(0, at) + " " + text.substring(at)).due(Bench.ARGUMENT);
        }
    }

    private static void defines(boolean does, String... texts) {
        for (String text : texts) {
            new Bench().define(text).due(does ? text.charAt(0) - 'A' : Bench.ARGUMENT);
        }
    }

    private static void oneOrMore() {
        Bench.says("Terms: a SUM is one or more ROWS with + between them");
        defines(true, "A=0", "A=0+0", "A=0+0+0+0+0+0+0+0+0", "B=0+0|0+0");
        defines(false, "", "A", "=", "A=", "=0", "0", "A=+", "A=0+", "A=+0", "A=0++0", "A=()", "A=(0+)", "A=(+0)");
        Bench.says("Terms: a row is one or more STEPS with | between");
        defines(true, "A=0|0", "A=0|0|0|0|0|0|0|0|0", "A=a.0|b.0", "A=(0|0)|(0|0)");
        defines(false, "A=|", "A=0|", "A=|0", "A=0||0", "A=0|+0", "A=0+|0", "A=(|0)", "A=(0|)");
        Bench.says("Terms: a step is an action, a dot and a step, or a PIECE");
        defines(true, "A=a.0", "A=a.b.0", "A=t.t.t.t.t.t.t.t.0", "A='a.'a.'a.'a.'a.0", "A=a.(b.0)", "A=a.B\\a");
        defines(false, "A=a", "A=.0", "A=a.", "A=a..0", "A=aa.0", "A=a.+0", "A=a.|0", "A=0.a", "A=B.0", "A=(a).0",
                "A=(a.)0", "A=t't.0", "A='", "A='.0", "A=''a.0", "A='a'.0", "A=a'.0");
        Bench.says("Terms: a piece is an ATOM with any number (also none) of \\x or [y/x] behind it");
        defines(true, "A=B", "A=B\\a", "A=B\\a\\a\\a\\a\\a\\a\\a\\a", "A=B[a/b]", "A=B[a/b][a/b][a/b]", "A=B[a/a]",
                "A=0\\a[a/b]\\c", "A=(0)\\d", "A=(a.0+b.0)[c/d]");
        defines(false, "A=\\a", "A=[a/b]", "A=[a/b]0", "A=0\\", "A=0\\\\a", "A=0\\a\\", "A=0[]", "A=0[a]", "A=0[/]",
                "A=0[a/]", "A=0[/a]", "A=0[a/b", "A=0a/b]", "A=0[ab]", "A=0[a/b/c]", "A=0[a/b]]", "A=0[[a/b]",
                "A=0\\'a", "A=0['a/b]", "A=0[a/'b]", "A=a\\b.0", "A=a.\\b0");
        Bench.says("Terms: an atom is 0, a name, or a sum in round brackets");
        defines(true, "A=D", "A=(D)", "D=(a.D+0|A)");
        defines(false, "A=00", "A=0A", "A=A0", "A=AA", "A=(0)(0)", "A=0(0)", "A=(0)0", "A=(0", "A=0)", "A=(0))",
                "A=((0)", "A=)0(", "A=1", "A=<a>0", "AA=0", "A=A=0", "A==0", "A=0=0");
    }

    private static String inBrackets(String text, int deep) {
        return "(".repeat(deep) + text + ")".repeat(deep);
    }

    private static void bracketsOfATerm() {
        Bench.says("Terms: a sum in round brackets, which lie at most four deep in one another");
        for (int deep = 0; deep <= 6; deep++) {
            String in = inBrackets("0", deep);
            defines(deep <= 4, "A=" + in, "A=0+" + in, "A=" + in + "+0", "A=0|" + in, "A=" + in + "|0", "A=a." + in,
                    "A=" + in + "\\a", "A=" + inBrackets("A", deep), "A=" + inBrackets("t.0", deep));
        }
        for (int deep = 3; deep <= 4; deep++) {
            defines(deep <= 3, "A=(" + inBrackets("0", deep) + "+0)", "A=(0|" + inBrackets("0", deep) + ")",
                    "A=(a." + inBrackets("0", deep) + ")", "A=(" + inBrackets("0", deep) + "\\a)");
        }
        defines(false, "A=((((()))))", "A=0+((((())))", "A=((((()))))+0", "A=((((", "A=(((((");
        Bench.says("Terms: brackets that do not lie in one another are not counted together");
        defines(true, "A=((0)|(0)|(0)|(0))", "A=((((0))))|(((0)))", "A=(((0)))+((((0))))", "A=((((0)|(0)))|(0))",
                "A=((((0[a/b]))))", "A=0[a/b][a/b][a/b]");
    }

    /** Two moves lead to the two terms: to one state just when they are the same. */
    private static void sameTerm(boolean same, String ofA, String ofB) {
        Bench b = Bench.with("A=a." + ofA, "B=b." + ofB, "C=0", "D=A+B");
        b.load(3, 3);
        b.move(0, 0, 1).due(1);
        b.move(0, 1, 1).due(same ? 1 : 2);
    }

    private static void fromTheLeft() {
        Bench.says("Terms: several + or | as from the left, ((P + Q) + R); several \\x and [y/x] likewise");
        sameTerm(true, "(0+C+C)", "((0+C)+C)");
        sameTerm(false, "(0+C+C)", "(0+(C+C))");
        sameTerm(true, "(0+0+0+0)", "(((0+0)+0)+0)");
        sameTerm(false, "(0+0+0+0)", "((0+0)+(0+0))");
        sameTerm(true, "(0|0|0)", "((0|0)|0)");
        sameTerm(false, "(0|0|0)", "(0|(0|0))");
        sameTerm(true, "0\\a[b/c]", "((0)\\a)[b/c]");
        sameTerm(false, "0\\a[b/c]", "0[b/c]\\a");
        sameTerm(false, "0\\a\\b", "0\\b\\a");
        sameTerm(false, "0[a/b][c/d]", "0[c/d][a/b]");
        Bench.says("Terms: It is read as the term that it shows");
        sameTerm(true, "(0+0|0)", "(0+(0|0))");
        sameTerm(false, "(0+0|0)", "((0+0)|0)");
        sameTerm(true, "(b.0+0)", "((b.0)+0)");
        sameTerm(false, "(b.0+0)", "b.(0+0)");
        sameTerm(true, "(b.0|0)", "((b.0)|0)");
        sameTerm(false, "(b.0|0)", "b.(0|0)");
        sameTerm(true, "b.0\\c", "b.(0\\c)");
        sameTerm(false, "b.0\\c", "(b.0)\\c");
        sameTerm(true, "b.0[a/b]", "b.(0[a/b])");
        sameTerm(false, "b.0[a/b]", "(b.0)[a/b]");
        sameTerm(true, "(0|0\\c)", "(0|(0\\c))");
        sameTerm(false, "(0|0\\c)", "(0|0)\\c");
    }

    private static void bracketsAreNoPart() {
        Bench.says("Terms: Brackets are no part of a term; two terms are the same when they are built in the same way of"
                + " the same.");
        sameTerm(true, "0", "((((0))))");
        sameTerm(true, "(0+0)", "((0)+((0)))");
        sameTerm(true, "b.0", "(b.(0))");
        sameTerm(false, "0", "(0+0)");
        sameTerm(false, "0", "0\\a");
        sameTerm(false, "(0+0)", "(0|0)");
        sameTerm(false, "0\\a", "0\\b");
        sameTerm(false, "0\\d", "0\\c");
        sameTerm(false, "0[a/b]", "0[b/a]");
        sameTerm(false, "0[a/a]", "0[b/b]");
        sameTerm(false, "0\\a", "0[a/a]");
        sameTerm(false, "b.0", "c.0");
        sameTerm(false, "b.0", "'b.0");
        sameTerm(false, "t.0", "d.0");
    }

    private static void sized(int size, String term) {
        Bench b = Bench.with("A=a." + term, "B=0");
        b.load(0, 0);
        b.size(1).due(size);
    }

    private static void sizes() {
        Bench.says("Terms: The SIZE of 0 and of a name is 1, that of any other term 1 more than those of what it is"
                + " directly made of.");
        sized(1, "0");
        sized(1, "B");
        sized(1, "((0))");
        sized(2, "b.0");
        sized(2, "B\\a");
        sized(2, "0[a/b]");
        sized(3, "(0+0)");
        sized(3, "(B|0)");
        sized(3, "0\\a\\b");
        sized(3, "b.c.B");
        sized(5, "(0+0+0)");
        sized(5, "(0|(0+B))");
        sized(5, "(b.0+c.B)");
        sized(6, "b.c.(0|B\\a)");
        sized(8, "(b.0|0[a/b]+c.B)");
    }

    private static void numbersOfNames() {
        Bench.says("Promise 3: The line defines a name (what was loaded stays as it was): the name's number.");
        Bench b = new Bench();
        b.define("A=a.0").due(0);
        b.define("B=b.0").due(1);
        b.define("C=c.0").due(2);
        b.define("D=d.0").due(3);
        for (int name = 0; name < 4; name++) {
            b.load(name, name).due(2);
            b.move(0, 0, 0).due(name + 1);
        }
        String before = b.seen();
        b.define("D=a.b.0|c.0").due(3);
        b.define("A=A").due(0);
        b.define("A=d.0").due(0);
        if (!b.seen().equals(before)) {
            Bench.fault("what was loaded has changed by defining");
        }
        b.load(3, 3).due(6);
        b.load(0, 0).due(2);
        b.move(0, 0, 0).due(4);
    }

    private static void lineEmptyAfterDefine() {
        Bench.says("Promise 3: The line is empty then, also when an exception comes.");
        for (String text : new String[] {FULL, "A=0", "A=", "A", "B=00", "A=0+0+0+0+0+0+0+0+0+", "1", ""}) {
            Bench b = new Bench().line(text);
            b.define();
            b.define().due(Bench.ARGUMENT);
            b.line(text).define();
            b.formula().due(Bench.ARGUMENT);
            b.line(text).define();
            b.define(FULL).due(0);
            b.load(0, 0).due(9);
        }
        Bench.says("Promise 3: IllegalArgumentException when it defines none.");
        for (String text : new String[] {"1", "<a>1", "mx.x", FULL_FORMULA, "0"}) {
            new Bench().define(text).due(Bench.ARGUMENT);
        }
    }

    /** Of all characters just these, put between the two texts, make a formula, which has so many parts. */
    private static void formula(String fitting, int parts, String before, String behind) {
        for (char c = 32; c <= 126; c++) {
            boolean fits = fitting.indexOf(c) >= 0;
            new Bench().formula(before + c + behind).due(fits ? parts : Bench.ARGUMENT);
        }
    }

    private static void charactersOfAFormula() {
        Bench.says("Terms: an item is 0, 1, a variable, a formula in round brackets (at most four deep), or <k> or [k]"
                + " and an item, k being an action or *");
        formula("01", 1, "", "");
        formula("01", 2, "<a>", "");
        formula("abcdt*", 2, "<", ">1");
        formula("abcdt*", 2, "[", "]1");
        formula("abcd", 2, "<'", ">1");
        formula("abcd", 2, "['", "]1");
        formula("'", 2, "<", "d>1");
        formula("", 0, "<", "t>1");
        formula("", 0, "<", "*>1");
        formula("<", 2, "", "a>1");
        formula(">", 2, "<a", "1");
        formula("[", 2, "", "a]1");
        formula("]", 2, "[a", "1");
        formula("(", 1, "", "1)");
        formula(")", 1, "(1", "");
        Bench.says("Terms: mx. or nx. and a formula (x here any of the VARIABLES x, y, z)");
        formula("mn", 2, "", "x.1");
        formula("xyz", 2, "m", ".1");
        formula("xyz", 2, "n", ".0");
        formula(".", 2, "mx", "1");
        formula("01x", 2, "mx.", "");
        formula("01y", 2, "ny.", "");
        formula("01z", 2, "mz.", "");
        formula("01xyz", 4, "mx.ny.mz.", "");
        Bench.says("Terms: a choice is one or more PAIRS with | between them; a pair is one or more ITEMS with & between");
        formula("|&", 3, "1", "0");
    }

    private static void blanksInAFormula() {
        Bench.says("Terms: A line is one (no blanks) when it is a CHOICE, or mx. or nx. and a formula");
        String text = "mx.(<'a>1|[*]x)&0";
        new Bench().formula(text).due(8);
        for (int at = 0; at <= text.length(); at++) {
            new Bench().formula(text.substring(0, at) + " " + text.substring(at)).due(Bench.ARGUMENT);
        }
    }

    private static void none(String... texts) {
        for (String text : texts) {
            new Bench().formula(text).due(Bench.ARGUMENT);
        }
    }

    private static void parts(int parts, String... texts) {
        for (String text : texts) {
            new Bench().formula(text).due(parts);
        }
    }

    private static void oneOrMoreOfAFormula() {
        Bench.says("Terms: a choice is one or more PAIRS with | between them");
        parts(19, "1|0|1|0|1|0|1|0|1|0");
        none("", "|", "1|", "|1", "1||1", "(|1)", "(1|)", "()", "mx.", "mx.|1", "1|&1", "1&|1", "1+1");
        Bench.says("Terms: a pair is one or more ITEMS with & between");
        parts(19, "1&0&1&0&1&0&1&0&1&0");
        none("&", "1&", "&1", "1&&1", "(&1)", "(1&)", "mx.x&");
        Bench.says("Terms: <k> or [k] and an item");
        parts(7, "<a>[b]<c>[d]<t>[*]0", "<a><a><a><a><a><a>1");
        none("<a>", "[a]", "<a>|1", "<a>&1", "<>1", "[]1", "<a>>1", "<<a>1", "[a>1", "<a]1", "<ab>1", "<a.>1", "<A>1",
                "a1", "<'>1", "<''a>1", "<'t>1", "<'*>1", "<**>1", "<1>1", "1<a>", "<a>)1(", "[a/b]1", "<a>.1");
        Bench.says("Terms: an item is 0, 1, a variable, a formula in round brackets");
        none("11", "10", "1(1)", "(1)1", "(1)(1)", "(1", "1)", "((1)", "(1))", ")1(", "A", "a", "m", "mxx", "xx", "A=0",
                "mx.xx", "mx.x1", "mx.1x");
    }

    private static void bracketsOfAFormula() {
        Bench.says("Terms: a formula in round brackets (at most four deep)");
        for (int deep = 0; deep <= 6; deep++) {
            String in = inBrackets("1", deep);
            if (deep <= 4) {
                parts(1, in);
                parts(2, "<a>" + in, "[*]" + in, "mx." + in, inBrackets("mx.x", deep), inBrackets("<a>0", deep));
                parts(3, "0|" + in, in + "|0", "0&" + in, in + "&0", "mx.ny." + in);
            } else {
                none(in, "<a>" + in, "[*]" + in, "mx." + in, inBrackets("mx.x", deep), inBrackets("<a>0", deep));
                none("0|" + in, in + "|0", "0&" + in, in + "&0", "mx.ny." + in);
            }
        }
        parts(3, "(0|" + inBrackets("1", 3) + ")", "(<a>" + inBrackets("<b>1", 3) + ")");
        none("(0|" + inBrackets("1", 4) + ")", "(<a>" + inBrackets("<b>1", 4) + ")");
        none("((((()))))", "1|((((()))))", "((((()))))|1", "1&((((()))))", "((((", "(((((");
        parts(3, "((mx.(([a]x))))");
        none("((mx.((([a]x)))))");
        Bench.says("Terms: brackets that do not lie in one another are not counted together");
        parts(9, "(1)&(1)&(1)&(1)&(1)");
        parts(3, "((((1))))|((((1))))", "((((1))))&((((1))))");
        parts(5, "(((1|(0))))&(((1)))");
        parts(6, "[a][a][a][a][a]1", "[a][a]([a][a]([a]1))");
    }

    private static void partsOfAFormula() {
        Bench.says("Promise 4: how many parts it has, that is how many 0, 1, variables (not counting those behind m and"
                + " n), |, &, pairs of <>, of [], and m and n there are");
        parts(1, "0", "1", "((0))");
        parts(2, "<a>0", "['b]1", "mx.0", "nx.1", "mx.x", "nz.z");
        parts(3, "0|0", "1&1", "mx.ny.0", "mx.ny.x", "<*><*>0", "mx.<t>x", "(mx.ny.y)");
        parts(4, "mx.x|x", "mx.x&1", "mx.ny.mz.1", "<a>0|1", "<a>(0|1)");
        parts(5, "0|1|0", "0|1&0", "(mx.x)|(ny.y)", "mx.ny.x|y");
        parts(8, "(mx.x)&(ny.y)&(nz.z)", "mx.ny.mz.x&y|z");
        parts(10, FULL_FORMULA);
    }

    private static void variablesWhereTheyStand() {
        Bench.says("Terms: A variable stands only in what is behind its mx. or nx. (as far as that formula goes)");
        parts(2, "mx.x", "mx.(x)", "(mx.x)");
        parts(4, "mx.1|x", "mx.1&x", "nx.x|1", "(mx.1|x)", "mx.(1)|(x)");
        parts(6, "mx.1|1&x", "mx.(1|1)&x");
        parts(5, "mx.(ny.x)|x", "mx.(ny.y)|x", "mx.(ny.x|y)");
        parts(6, "mx.<a>(ny.x)|x", "ny.(mz.z)&[*]y");
        none("x", "y", "z", "<a>x", "1|x", "(x)", "mx.y", "mx.z", "ny.x", "ny.z", "mz.y", "x|(mx.1)", "x&(mx.x)",
                "(mx.1)|x", "(mx.x)&x", "(mx.x)|<a>x", "mx.(ny.1)|y", "mx.(ny.y)&y", "mx.(ny.y)|[a]y", "mx.y|(ny.y)",
                "(mx.1)|(ny.x)", "(mx.(ny.1)|y)", "((mx.x))&x", "w", "mw.w", "(mx.1)|y", "(mx.1)&z", "(nz.z)&x",
                "mx.(ny.1)&z");
    }

    private static void variablesBoundTwice() {
        Bench.says("Terms: no variable is bound twice in a line");
        parts(8, "(mx.x)&(ny.y)&(nz.z)");
        parts(4, "mx.ny.mz.x");
        none("mx.mx.x", "mx.nx.x", "nx.mx.1", "ny.ny.1", "nz.mz.z", "mx.ny.mx.1", "mx.ny.my.1", "mx.ny.mz.nx.1",
                "mx.ny.mz.ny.1", "mx.ny.mz.nz.1", "(mx.x)|(mx.x)", "(mx.1)&(nx.1)", "(nz.z)|(nz.z)", "mx.(mx.x)",
                "mx.x|(nx.1)", "mx.<a>(mx.x)", "(mx.1)&(ny.(mx.1))", "((mx.1))|(nx.0)");
    }

    private static void bindersWhereTheyStand() {
        Bench.says("Terms: A line is one (no blanks) when it is a CHOICE, or mx. or nx. and a formula");
        parts(4, "1|(mx.x)", "(mx.x)|1", "(mx.x)&1");
        parts(3, "<a>(mx.x)", "[a](nx.0)");
        none("1|mx.x", "1&mx.x", "<a>mx.x", "[a]nx.1", "mx.1|ny.y", "mx.<a>ny.y", "mx", "m", "m.1", "mx1", "mxy.1",
                "x.1", "mx..1", "mx.ny", "mnx.1", "mx.m.1");
    }

    private static void lineEmptyAfterFormula() {
        Bench.says("Promise 4: The line is empty then, also when an exception comes.");
        for (String text : new String[] {FULL_FORMULA, "1", "mx.", "x", "1|1|1|1|1|1|1|1|1|1|", "A=0", ""}) {
            Bench b = new Bench().line(text);
            b.formula();
            b.formula().due(Bench.ARGUMENT);
            b.line(text).formula();
            b.define().due(Bench.ARGUMENT);
            b.line(text).formula();
            b.formula(FULL_FORMULA).due(10);
        }
        Bench.says("Promise 4: IllegalArgumentException when it is none: the formula stays.");
        Bench b = Bench.with("A=a.b.0");
        b.formula("<a>1").due(2);
        b.load(0, 0).due(3);
        for (String text : new String[] {"", "2", "0|", "1|1|1|1|1|1|1|1|1|1|", "(((((1)))))", "x", "mx.mx.x", "A=0"}) {
            b.formula(text).due(Bench.ARGUMENT);
            b.having().due("100");
            b.pairs(0).due(2);
            b.pairs(1).due(1);
        }
        b.formula("<b>1").due(2);
        b.having().due("010");
    }

    private static void refusedLinesLeaveNothing() {
        Bench.says("Terms: A call that throws changes nothing, but where it is said");
        Bench b = new Bench();
        for (int i = 0; i < 8; i++) {
            b.define("A=a.a.a.a.a.a.a.a.a").due(Bench.ARGUMENT);
            b.define("A=((((a.b.c.e").due(Bench.ARGUMENT);
            b.formula("<a><a><a><a><a><e>1").due(Bench.ARGUMENT);
            b.formula("mx.ny.mz.((((<a><a>[").due(Bench.ARGUMENT);
            b.formula("mx.ny.mz.m").due(Bench.ARGUMENT);
        }
        b.formula("mx.m").due(Bench.ARGUMENT);
        b.formula("x").due(Bench.ARGUMENT);
        b.formula("ny.(nz.m").due(Bench.ARGUMENT);
        b.formula("y|z").due(Bench.ARGUMENT);
        b.formula("mx.ny.mz.x&y&z").due(8);
        b.formula("<a><a><a><a><a><a>1").due(7);
        b.define("A=((((a.b.c.0))))").due(0);
        b.define(FULL).due(0);
        b.load(0, 0).due(9);
    }
}
