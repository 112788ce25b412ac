import java.util.ArrayList;
import java.util.HashMap;
import java.util.HashSet;
import java.util.List;
import java.util.Map;
import java.util.Set;

/**
 * Every short line over some of the grammar's characters, such as stand for all of them: those that the grammar makes,
 * made here from it piece by piece with the size of the term or the number of parts, are taken, and no other ones.
 */
public final class ShortLinesTest {
    private static final int LONGEST = Integer.getInteger("longest", 5);
    private static final String TERM_CHARACTERS = "0Bat'.+|\\[/]()";
    private static final String FORMULA_CHARACTERS = "0xymn.|&<>[]a()";
    private static final int CALLS_OF_A_LINE = 20;

    private static int asked = 0;
    private static int wrong = 0;
    private static StepWorkbench workbench = new StepWorkbench();
    private static int calls = 0;

    /** A text of the grammar with what is to be known of it; a text has one meaning, so it is made once. */
    record Made(String text, int weight, Set<String> free, Set<String> bound) {
        static Made of(String text, int weight) {
            return new Made(text, weight, Set.of(), Set.of());
        }

        /** Null when a variable would be bound twice. */
        Made with(String between, Made other) {
            Set<String> both = new HashSet<>(bound);
            both.addAll(other.bound);
            if (both.size() < bound.size() + other.bound.size()) {
                return null;
            }
            Set<String> open = new HashSet<>(free);
            open.addAll(other.free);
            return new Made(text + between + other.text, weight + 1 + other.weight, open, both);
        }

        Made around(String before, String behind, int more) {
            return new Made(before + text + behind, weight + more, free, bound);
        }

        Made behindBinder(String binder, String variable) {
            if (bound.contains(variable)) {
                return null;
            }
            Set<String> open = new HashSet<>(free);
            open.remove(variable);
            Set<String> all = new HashSet<>(bound);
            all.add(variable);
            return new Made(binder + variable + "." + text, weight + 1, open, all);
        }
    }

    /** The texts of one kind of the grammar, by their length. */
    static final class Kind {
        private final List<List<Made>> byLength = new ArrayList<>();

        Kind() {
            for (int n = 0; n <= LONGEST; n++) {
                byLength.add(new ArrayList<>());
            }
        }

        List<Made> of(int length) {
            return length < 0 ? List.of() : byLength.get(length);
        }

        void add(Made made) {
            if (made != null) {
                byLength.get(made.text().length()).add(made);
            }
        }

        void addAll(List<Made> all) {
            all.forEach(this::add);
        }

        Map<String, Integer> closed() {
            Map<String, Integer> texts = new HashMap<>();
            for (List<Made> ofLength : byLength) {
                for (Made made : ofLength) {
                    if (made.free().isEmpty()) {
                        texts.put(made.text(), made.weight());
                    }
                }
            }
            return texts;
        }
    }

    public static void main(String[] args) {
        Map<String, Integer> terms = terms();
        Map<String, Integer> formulas = formulas();
        everyLine("", TERM_CHARACTERS, terms, true);
        everyLine("", FORMULA_CHARACTERS, formulas, false);
        System.out.println(asked + " lines, " + terms.size() + " of them terms and " + formulas.size()
                + " formulas, " + wrong + " not as due");
        if (wrong != 0) {
            System.exit(1);
        }
    }

    private static void joined(Kind whole, Kind part, String by, int n) {
        whole.addAll(part.of(n));
        for (int left = 1; left < n - 1; left++) {
            for (Made p : whole.of(left)) {
                for (Made q : part.of(n - 1 - left)) {
                    whole.add(p.with(by, q));
                }
            }
        }
    }

    private static Map<String, Integer> terms() {
        Kind sum = new Kind();
        Kind row = new Kind();
        Kind step = new Kind();
        Kind piece = new Kind();
        for (int n = 1; n <= LONGEST; n++) {
            if (n == 1) {
                piece.add(Made.of("0", 1));
                piece.add(Made.of("B", 1));
            }
            sum.of(n - 2).forEach(p -> piece.add(p.around("(", ")", 0)));
            piece.of(n - 2).forEach(p -> piece.add(p.around("", "\\a", 1)));
            piece.of(n - 5).forEach(p -> piece.add(p.around("", "[a/a]", 1)));
            step.addAll(piece.of(n));
            for (String action : List.of("a", "'a", "t")) {
                step.of(n - 1 - action.length()).forEach(p -> step.add(p.around(action + ".", "", 1)));
            }
            joined(row, step, "|", n);
            joined(sum, row, "+", n);
        }
        return sum.closed();
    }

    private static Map<String, Integer> formulas() {
        Kind formula = new Kind();
        Kind choice = new Kind();
        Kind pair = new Kind();
        Kind item = new Kind();
        for (int n = 1; n <= LONGEST; n++) {
            if (n == 1) {
                item.add(Made.of("0", 1));
                item.add(new Made("x", 1, Set.of("x"), Set.of()));
                item.add(new Made("y", 1, Set.of("y"), Set.of()));
            }
            formula.of(n - 2).forEach(p -> item.add(p.around("(", ")", 0)));
            item.of(n - 3).forEach(p -> item.add(p.around("<a>", "", 1)));
            item.of(n - 3).forEach(p -> item.add(p.around("[a]", "", 1)));
            joined(pair, item, "&", n);
            joined(choice, pair, "|", n);
            formula.addAll(choice.of(n));
            for (String binder : List.of("mx", "my", "nx", "ny")) {
                formula.of(n - 3).forEach(
                        p -> formula.add(p.behindBinder(binder.substring(0, 1), binder.substring(1))));
            }
        }
        return formula.closed();
    }

    private static void everyLine(String text, String characters, Map<String, Integer> due, boolean isTerm) {
        asked++;
        if (isTerm) {
            askTerm(text, due.get(text));
        } else {
            askFormula(text, due.get(text));
        }
        for (int i = 0; i < characters.length() && text.length() < LONGEST; i++) {
            everyLine(text + characters.charAt(i), characters, due, isTerm);
        }
    }

    private static void askTerm(String text, Integer size) {
        freshWhenWorn();
        due("A=" + text, taken("A=" + text, true), size == null ? -1 : 0);
        if (size != null) {
            taken("B=0", true);
            taken("A=a.(" + text + ")", true);
            workbench.load(0, 0);
            due("the size of " + text, workbench.size(1), size);
        }
    }

    private static void askFormula(String text, Integer parts) {
        freshWhenWorn();
        due(text, taken(text, false), parts == null ? -1 : parts);
    }

    private static void freshWhenWorn() {
        if (calls + CALLS_OF_A_LINE > 512) {
            workbench = new StepWorkbench();
            calls = 0;
        }
        calls += CALLS_OF_A_LINE;
    }

    private static int taken(String text, boolean isTerm) {
        for (int i = 0; i < text.length(); i += 4) {
            int four = 0;
            for (int j = i; j < i + 4 && j < text.length(); j++) {
                four |= text.charAt(j) << (8 * (j - i));
            }
            workbench.type(four);
        }
        try {
            return isTerm ? workbench.define() : workbench.formula();
        } catch (IllegalArgumentException e) {
            return -1;
        }
    }

    private static void due(String what, int got, int want) {
        if (got != want) {
            wrong++;
            if (wrong < 20) {
                System.out.println(what + ": answered " + got + ", due is " + want);
            }
        }
    }
}
