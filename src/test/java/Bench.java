import java.util.ArrayList;
import java.util.List;
import java.util.NoSuchElementException;
import java.util.Objects;

/** A StepWorkbench whose every call gives an answer that can be compared, an exception being the answer of its name. */
final class Bench {
    static final String INDEX = "IndexOutOfBoundsException";
    static final String ARGUMENT = "IllegalArgumentException";
    static final String STATE = "IllegalStateException";
    static final String ELEMENT = "NoSuchElementException";
    // What an object answers after so many calls is free, so no test may ask it.
    static final int CALL_LIMIT = 512;

    private static int asked = 0;
    private static int wrong = 0;
    private static String sentence = "";

    private final StepWorkbench workbench = new StepWorkbench();
    private final List<String> history = new ArrayList<>();

    interface Call {
        Object answer();
    }

    /** What a call answered, with the calls that came before it. */
    static final class Answer {
        private final Object got;
        private final List<String> calls;

        Answer(Object got, List<String> calls) {
            this.got = got;
            this.calls = calls;
        }

        void due(Object want) {
            asked++;
            if (!Objects.equals(got, want)) {
                int before = Math.max(0, calls.size() - 20);
                fault(before + " calls, then " + calls.subList(before, calls.size()) + ": answered " + got + ", due is "
                        + want);
            }
        }

        @Override
        public String toString() {
            return String.valueOf(got);
        }
    }

    /** The sentence of the document, or what follows from it, that the answers asked from here on are due by. */
    static void says(String ofTheDocument) {
        sentence = ofTheDocument;
    }

    static void finish() {
        System.out.println(asked + " answers asked, " + wrong + " not as due");
        if (wrong != 0) {
            System.exit(1);
        }
    }

    static void fault(String what) {
        wrong++;
        System.out.println(sentence + "\n    " + what);
    }

    private Answer ask(String text, Call call) {
        Object got;
        try {
            got = call.answer();
        } catch (IndexOutOfBoundsException | IllegalArgumentException | IllegalStateException
                | NoSuchElementException e) {
            got = e.getClass().getSimpleName();
        }
        history.add(text);
        if (history.size() > CALL_LIMIT) {
            fault("the test makes more calls than are promised");
        }
        return new Answer(got, history);
    }

    int callsMade() {
        return history.size();
    }

    Answer type(int four) {
        return ask("type(" + Integer.toHexString(four) + ")", () -> workbench.type(four));
    }

    Answer type(String upToFour) {
        int four = 0;
        for (int i = 0; i < upToFour.length(); i++) {
            four |= upToFour.charAt(i) << (8 * i);
        }
        int typed = four;
        return ask("type(" + upToFour + ")", () -> workbench.type(typed));
    }

    Answer define() {
        return ask("define()", workbench::define);
    }

    Answer formula() {
        return ask("formula()", workbench::formula);
    }

    Answer check(int name) {
        return ask("check(" + name + ")", () -> workbench.check(name));
    }

    Answer load(int first, int second) {
        return ask("load(" + first + "," + second + ")", () -> workbench.load(first, second));
    }

    Answer states() {
        return ask("states()", workbench::states);
    }

    Answer second() {
        return ask("second()", workbench::second);
    }

    Answer moves(int s) {
        return ask("moves(" + s + ")", () -> workbench.moves(s));
    }

    Answer move(int s, int k, int what) {
        return ask("move(" + s + "," + k + "," + what + ")", () -> workbench.move(s, k, what));
    }

    Answer size(int s) {
        return ask("size(" + s + ")", () -> workbench.size(s));
    }

    Answer level(int s, int u, boolean weakly) {
        return ask("level(" + s + "," + u + "," + weakly + ")", () -> workbench.level(s, u, weakly));
    }

    Answer tells(int s, int u, boolean weakly) {
        return ask("tells(" + s + "," + u + "," + weakly + ")", () -> workbench.tells(s, u, weakly));
    }

    Answer leader(int s, boolean weakly) {
        return ask("leader(" + s + "," + weakly + ")", () -> workbench.leader(s, weakly));
    }

    Answer classes(boolean weakly) {
        return ask("classes(" + weakly + ")", () -> workbench.classes(weakly));
    }

    Answer stuck() {
        return ask("stuck()", workbench::stuck);
    }

    Answer holds(int s) {
        return ask("holds(" + s + ")", () -> workbench.holds(s));
    }

    Answer pairs(int s) {
        return ask("pairs(" + s + ")", () -> workbench.pairs(s));
    }

    /** Types a text that fits, four characters at a time. */
    Bench line(String text) {
        for (int i = 0; i < text.length(); i += 4) {
            type(text.substring(i, Math.min(i + 4, text.length()))).due(true);
        }
        return this;
    }

    Answer define(String text) {
        return line(text).define();
    }

    Answer formula(String text) {
        return line(text).formula();
    }

    /** A new one on which each of the lines defines its name. */
    static Bench with(String... definitions) {
        Bench bench = new Bench();
        for (String text : definitions) {
            bench.define(text).due(text.charAt(0) - 'A');
        }
        return bench;
    }

    static int number(Answer answer) {
        return answer.got instanceof Integer number ? number : 0;
    }

    /** The moves of every state: action>state, with commas between moves and a semicolon behind each state. */
    Answer shown() {
        StringBuilder all = new StringBuilder();
        int states = number(states());
        for (int s = 0; s < states; s++) {
            int moves = number(moves(s));
            for (int k = 0; k < moves; k++) {
                all.append(k == 0 ? "" : ",").append(move(s, k, 0)).append(">").append(move(s, k, 1));
            }
            all.append(";");
        }
        return new Answer(all.toString(), history);
    }

    /** For each state 1 when it has the formula, 0 when not. */
    Answer having() {
        StringBuilder all = new StringBuilder();
        int states = number(states());
        for (int s = 0; s < states; s++) {
            Object has = holds(s).got;
            all.append(has.equals(true) ? "1" : has.equals(false) ? "0" : has);
        }
        return new Answer(all.toString(), history);
    }

    /** All that can be asked of what is checked, loaded and wanted; nothing is changed by it. */
    String seen() {
        StringBuilder all = new StringBuilder("checks");
        for (int name = 0; name < 4; name++) {
            all.append(" ").append(check(name));
        }
        all.append(" second ").append(second()).append(" moves ").append(shown()).append(" stuck ").append(stuck());
        all.append(" classes ").append(classes(false)).append(" ").append(classes(true));
        int states = number(states());
        for (int s = 0; s < states; s++) {
            all.append(" state ").append(size(s)).append(leader(s, false)).append(leader(s, true));
            for (int u = 0; u < states; u++) {
                all.append(" ").append(level(s, u, false)).append(tells(s, u, false));
                all.append(" ").append(level(s, u, true)).append(tells(s, u, true));
            }
        }
        for (int s = 0; s <= states; s++) {
            all.append(" has ").append(holds(s)).append(" ").append(pairs(s));
        }
        return all.toString();
    }

    /** All that is seen, and then what only changing calls show: the line with a rest behind it, and the definitions. */
    String seenThrough(String rest) {
        StringBuilder all = new StringBuilder(seen());
        all.append(" line ").append(type(rest)).append(define());
        for (int name = 0; name < 4; name++) {
            all.append(" name ").append(check(name)).append(load(name, name)).append(shown());
        }
        return all.append(" has ").append(holds(0)).append(pairs(0)).toString();
    }
}
