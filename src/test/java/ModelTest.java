import java.util.ArrayDeque;
import java.util.ArrayList;
import java.util.Arrays;
import java.util.HashMap;
import java.util.HashSet;
import java.util.LinkedHashSet;
import java.util.List;
import java.util.Map;
import java.util.NoSuchElementException;
import java.util.Random;
import java.util.Set;
import java.util.TreeSet;
import java.util.regex.Matcher;
import java.util.regex.Pattern;

/**
 * Long runs of made-up calls, each answered by StepWorkbench and by a slow model that follows the document's words
 * by other means: texts are split instead of read on, terms are texts, levels are looked up from the definition, and
 * fixed points are found among all sets of states where there are few.
 */
public final class ModelTest {
    private static final int RUNS = Integer.getInteger("runs", 400);
    private static int wrong = 0;
    private static final Map<String, Integer> seen = new HashMap<>();

    public static void main(String[] args) {
        for (int run = 0; run < RUNS && wrong < 20; run++) {
            new Run(run).go();
        }
        demandVariety();
        System.out.println(wrong == 0 ? "the model agrees" : wrong + " answers differ from the model's");
        if (wrong != 0) {
            System.exit(1);
        }
    }

    /** A made-up run is worth little when it never comes to the rarer answers. */
    private static void demandVariety() {
        for (String answer : List.of("define 3", "define !Argument", "formula !Argument", "formula 9", "check 0",
                "check 1", "check 2", "check 3", "load !Argument", "load !State", "load !Index", "load 20",
                "level 0", "level 4", "tells !Element", "holds true", "holds false", "holds !State", "stuck -1",
                "stuck 3", "type false", "type !Argument")) {
            if (!seen.containsKey(answer)) {
                wrong++;
                System.out.println("no run came to " + answer);
            }
        }
        if (Boolean.getBoolean("show")) {
            seen.entrySet().stream().sorted(Map.Entry.comparingByKey()).forEach(System.out::println);
        }
    }

    interface Call {
        Object answer();
    }

    static Object outcome(Call call) {
        try {
            return call.answer();
        } catch (IndexOutOfBoundsException e) {
            return "!Index";
        } catch (IllegalArgumentException e) {
            return "!Argument";
        } catch (IllegalStateException e) {
            return "!State";
        } catch (NoSuchElementException e) {
            return "!Element";
        }
    }

    static final class Run {
        final int number;
        final Random random;
        final StepWorkbench real = new StepWorkbench();
        final Model model = new Model();
        final List<String> history = new ArrayList<>();
        int calls = 0;

        Run(int number) {
            this.number = number;
            this.random = new Random(number * 7919L + 17);
        }

        void same(String call, Call ofReal, Call ofModel) {
            Object got = outcome(ofReal);
            Object due = outcome(ofModel);
            calls++;
            history.add(call + " = " + due);
            seen.merge(call.substring(0, call.indexOf('(')) + " " + due, 1, Integer::sum);
            if (!got.equals(due)) {
                wrong++;
                System.out.println("run " + number + ": " + call + " answered " + got + ", the model says " + due);
                for (String h : history) {
                    if (!h.matches("(move|moves|size|level|tells|leader|holds|pairs)\\(.*")) {
                        System.out.println("    " + h);
                    }
                }
            }
        }

        void go() {
            while (calls < 480 && wrong < 20) {
                int what = random.nextInt(10);
                if (what < 3) {
                    write(Lines.definition(random));
                    same("define()", () -> real.define(), () -> model.define());
                } else if (what < 4) {
                    for (char name = 'A'; name <= 'D'; name++) {
                        write(Lines.layer(random, name));
                        same("define()", () -> real.define(), () -> model.define());
                    }
                    loadSome();
                    askStates();
                } else if (what < 6) {
                    write(Lines.formula(random));
                    same("formula()", () -> real.formula(), () -> model.formula());
                } else if (what < 7) {
                    checkAll();
                } else if (what < 9) {
                    loadSome();
                    askStates();
                } else {
                    oddCalls();
                }
            }
        }

        void type(int four) {
            same("type(" + four + ")", () -> real.type(four), () -> model.type(four));
        }

        void write(String text) {
            for (int i = 0; i < text.length(); i += 4) {
                int four = 0;
                for (int j = 0; j < 4 && i + j < text.length(); j++) {
                    four |= text.charAt(i + j) << (8 * j);
                }
                type(four);
            }
        }

        void checkAll() {
            for (int n = -1; n < 5; n++) {
                int name = n;
                same("check(" + n + ")", () -> real.check(name), () -> model.check(name));
            }
        }

        void loadSome() {
            int first = random.nextInt(40) == 0 ? random.nextInt(7) - 1 : random.nextInt(4);
            int second = random.nextInt(40) == 0 ? random.nextInt(7) - 1 : random.nextInt(4);
            same("load(" + first + ", " + second + ")", () -> real.load(first, second), () -> model.load(first, second));
            same("states()", () -> real.states(), () -> model.states());
            same("second()", () -> real.second(), () -> model.second());
            same("stuck()", () -> real.stuck(), () -> model.stuck());
            same("classes(false)", () -> real.classes(false), () -> model.classes(false));
            same("classes(true)", () -> real.classes(true), () -> model.classes(true));
        }

        int someState() {
            int n = model.states();
            return random.nextInt(15) == 0 ? random.nextInt(n + 3) - 1 : n == 0 ? 0 : random.nextInt(n);
        }

        void askStates() {
            for (int i = 0; i < (model.states() > 0 ? 8 : 1); i++) {
                int s = someState();
                int u = someState();
                int k = random.nextInt(4) - (random.nextInt(9) == 0 ? 1 : 0);
                int what = random.nextInt(20) == 0 ? random.nextInt(5) - 1 : random.nextInt(2);
                boolean weakly = random.nextBoolean();
                same("moves(" + s + ")", () -> real.moves(s), () -> model.moves(s));
                same("move(" + s + ", " + k + ", " + what + ")", () -> real.move(s, k, what),
                        () -> model.move(s, k, what));
                same("size(" + s + ")", () -> real.size(s), () -> model.size(s));
                same("level(" + s + ", " + u + ", " + weakly + ")", () -> real.level(s, u, weakly),
                        () -> model.level(s, u, weakly));
                same("tells(" + s + ", " + u + ", " + weakly + ")", () -> real.tells(s, u, weakly),
                        () -> model.tells(s, u, weakly));
                same("leader(" + s + ", " + weakly + ")", () -> real.leader(s, weakly),
                        () -> model.leader(s, weakly));
                same("holds(" + s + ")", () -> real.holds(s), () -> model.holds(s));
                same("pairs(" + s + ")", () -> real.pairs(s), () -> model.pairs(s));
            }
        }

        void oddCalls() {
            int[] odd = {0, -1, 0x61616161, 0x61006161, 0x1F616161, 0x7F, 0x7E, 0x20, 0x80616100, 0x80616161};
            for (int i = random.nextInt(6); i >= 0; i--) {
                type(odd[random.nextInt(odd.length)]);
            }
            if (random.nextBoolean()) {
                same("define()", () -> real.define(), () -> model.define());
            } else {
                same("formula()", () -> real.formula(), () -> model.formula());
            }
        }
    }

    /** Lines that mostly follow the document, and some that do not. */
    static final class Lines {
        static String definition(Random r) {
            int room = 3 + r.nextInt(18);
            String text = "";
            for (int tries = 0; tries < 50; tries++) {
                text = pick(r, "A", "B", "C", "D") + "=" + sum(r, r.nextInt(4));
                if (text.length() <= room) {
                    break;
                }
            }
            return spoil(r, text, "ABCDabcdt'.+|\\[]/()0=E ");
        }

        /** A definition that can be loaded: within | and \\ and [/] and before a step only later names stand. */
        static String layer(Random r, char name) {
            String text = "";
            for (int tries = 0; tries < 200; tries++) {
                text = name + "=" + layered(r, name, 2);
                if (text.length() <= 20 && text.length() > r.nextInt(18)) {
                    return text;
                }
            }
            return name + "=a." + name;
        }

        static String layered(Random r, char name, int deep) {
            String text = layeredRow(r, name, deep);
            while (r.nextInt(2) == 0) {
                text += "+" + layeredRow(r, name, deep);
            }
            return text;
        }

        static String layeredRow(Random r, char name, int deep) {
            if (r.nextInt(3) != 0) {
                String text = action(r) + ".";
                while (r.nextInt(3) == 0) {
                    text += action(r) + ".";
                }
                return text + (r.nextInt(4) == 0 ? "0" : "" + (char) ('A' + r.nextInt(4)));
            }
            String later = later(r, name);
            switch (r.nextInt(4)) {
                case 0:
                    return later + "|" + later(r, name) + (r.nextInt(3) == 0 ? "|" + later(r, name) : "");
                case 1:
                    return "(" + later + "|" + later(r, name) + ")\\" + pick(r, "a", "b");
                case 2:
                    return later + "[" + pick(r, "a", "b", "c") + "/" + pick(r, "a", "b", "d") + "]";
                default:
                    return deep > 0 ? action(r) + ".(" + layered(r, name, deep - 1) + ")" : later;
            }
        }

        static String later(Random r, char name) {
            return name == 'D' ? action(r) + ".0" : "" + (char) (name + 1 + r.nextInt('D' - name));
        }

        static String sum(Random r, int deep) {
            String text = row(r, deep);
            while (r.nextInt(3) == 0) {
                text += "+" + row(r, deep);
            }
            return text;
        }

        static String row(Random r, int deep) {
            String text = step(r, deep);
            while (r.nextInt(4) == 0) {
                text += "|" + step(r, deep);
            }
            return text;
        }

        static String step(Random r, int deep) {
            if (r.nextInt(5) < 3) {
                return action(r) + "." + step(r, deep);
            }
            String text = r.nextInt(3) == 0 && deep > 0 ? "(" + sum(r, deep - 1) + ")"
                    : r.nextInt(3) == 0 ? "0" : pick(r, "A", "B", "C", "D");
            while (r.nextInt(6) == 0) {
                String letters = "aaabbcd";
                text += r.nextBoolean() ? "\\" + letters.charAt(r.nextInt(7))
                        : "[" + letters.charAt(r.nextInt(7)) + "/" + letters.charAt(r.nextInt(7)) + "]";
            }
            return text;
        }

        static String action(Random r) {
            return pick(r, "a", "a", "b", "c", "d", "'a", "'a", "'b", "'d", "t", "t");
        }

        static String formula(Random r) {
            String text = "";
            for (int tries = 0; tries < 50; tries++) {
                List<String> free = new ArrayList<>(List.of("x", "y", "z"));
                text = whole(r, 3, free, new ArrayList<>());
                if (text.length() <= 20) {
                    break;
                }
            }
            return spoil(r, text, "xyzmn.|&<>[]*abt'()01 ");
        }

        static String whole(Random r, int deep, List<String> free, List<String> bound) {
            if (r.nextInt(5) < 3 && !free.isEmpty()) {
                String x = free.remove(r.nextInt(free.size()));
                List<String> more = new ArrayList<>(bound);
                more.add(x);
                more.add(x);
                return pick(r, "m", "n") + x + "." + whole(r, deep, free, more);
            }
            String text = pair(r, deep, free, bound);
            while (r.nextInt(3) == 0) {
                text += "|" + pair(r, deep, free, bound);
            }
            return text;
        }

        static String pair(Random r, int deep, List<String> free, List<String> bound) {
            String text = item(r, deep, free, bound);
            while (r.nextInt(4) == 0) {
                text += "&" + item(r, deep, free, bound);
            }
            return text;
        }

        static String item(Random r, int deep, List<String> free, List<String> bound) {
            int what = r.nextInt(9);
            if (what < 5) {
                String k = r.nextInt(3) == 0 ? "*" : action(r);
                return (r.nextBoolean() ? "<" + k + ">" : "[" + k + "]") + item(r, deep, free, bound);
            }
            if (what == 5 && deep > 0) {
                return "(" + whole(r, deep - 1, free, bound) + ")";
            }
            if (what < 8 && !bound.isEmpty()) {
                return bound.get(r.nextInt(bound.size()));
            }
            return pick(r, "0", "1");
        }

        static String spoil(Random r, String text, String with) {
            if (r.nextInt(8) != 0) {
                return text;
            }
            int at = r.nextInt(text.length());
            char c = with.charAt(r.nextInt(with.length()));
            switch (r.nextInt(3)) {
                case 0:
                    return text.substring(0, at) + text.substring(at + 1);
                case 1:
                    return text.substring(0, at) + c + text.substring(at);
                default:
                    return text.substring(0, at) + c + text.substring(at + 1);
            }
        }

        static String pick(Random r, String... of) {
            return of[r.nextInt(of.length)];
        }
    }

    /** A term: its operator, what it is made of, and a text that shows it whole. */
    record Term(String op, List<Term> parts, String show) {
        static Term of(String op, Term... parts) {
            StringBuilder show = new StringBuilder("{").append(op);
            for (Term p : parts) {
                show.append(p.show);
            }
            return new Term(op, List.of(parts), show.append("}").toString());
        }

        int count() {
            int n = 1;
            for (Term p : parts) {
                n += p.count();
            }
            return n;
        }
    }

    record Step(int action, Term to) { }

    record Arc(int action, int to) { }

    static final class TooLarge extends RuntimeException {
        private static final long serialVersionUID = 1L;
    }

    /** Parts of a text between separators that stand in no bracket; null when brackets do not match. */
    static List<String> split(String text, char by) {
        List<String> parts = new ArrayList<>();
        int deep = 0;
        int from = 0;
        for (int i = 0; i < text.length(); i++) {
            char c = text.charAt(i);
            deep += c == '(' ? 1 : c == ')' ? -1 : 0;
            if (deep < 0) {
                return null;
            }
            if (c == by && deep == 0) {
                parts.add(text.substring(from, i));
                from = i + 1;
            }
        }
        parts.add(text.substring(from));
        return deep == 0 ? parts : null;
    }

    static int deepest(String text) {
        int deep = 0;
        int deepest = 0;
        for (char c : text.toCharArray()) {
            deep += c == '(' ? 1 : c == ')' ? -1 : 0;
            deepest = Math.max(deep, deepest);
        }
        return deepest;
    }

    static int actionOf(String text) {
        return List.of("t", "a", "b", "c", "d", "'a", "'b", "'c", "'d", "*").indexOf(text);
    }

    static final class Model {
        String line = "";
        final Term[] bodies = new Term[4];
        List<List<Arc>> arcs = new ArrayList<>();
        List<Integer> sizes = new ArrayList<>();
        int secondState;
        Node wanted;
        final Map<Boolean, int[][]> levels = new HashMap<>();

        boolean type(int four) {
            StringBuilder typed = new StringBuilder();
            for (int rest = four; (rest & 0xFF) != 0; rest >>>= 8) {
                typed.append((char) (rest & 0xFF));
            }
            if (!typed.toString().matches("[ -~]*")) {
                throw new IllegalArgumentException();
            }
            if (line.length() + typed.length() > 20) {
                return false;
            }
            line += typed;
            return true;
        }

        int define() {
            String text = line;
            line = "";
            Term body = text.matches("[A-D]=.*") && deepest(text) <= 4 ? sum(text.substring(2)) : null;
            if (body == null) {
                throw new IllegalArgumentException();
            }
            bodies[text.charAt(0) - 'A'] = body;
            return text.charAt(0) - 'A';
        }

        static Term sum(String text) {
            return fold("+", split(text, '+'));
        }

        static Term fold(String op, List<String> texts) {
            Term whole = null;
            if (texts != null) {
                for (String part : texts) {
                    Term term = op.equals("+") ? fold("|", split(part, '|')) : step(part);
                    if (term == null) {
                        return null;
                    }
                    whole = whole == null ? term : Term.of(op, whole, term);
                }
            }
            return whole;
        }

        static Term step(String text) {
            Matcher prefix = Pattern.compile("(t|'?[a-d])\\.(.*)").matcher(text);
            if (prefix.matches()) {
                Term after = step(prefix.group(2));
                return after == null ? null : Term.of(prefix.group(1) + ".", after);
            }
            return piece(text);
        }

        static Term piece(String text) {
            Matcher suffix = Pattern.compile("(.*)(\\\\[a-d]|\\[[a-d]/[a-d]\\])").matcher(text);
            if (suffix.matches()) {
                Term inner = piece(suffix.group(1));
                return inner == null ? null : Term.of(suffix.group(2), inner);
            }
            if (text.matches("[0A-D]")) {
                return Term.of(text);
            }
            if (text.startsWith("(") && text.endsWith(")") && text.length() > 2) {
                return sum(text.substring(1, text.length() - 1));
            }
            return null;
        }

        static void namesIn(Term t, boolean behindStep, boolean within, Set<String> found) {
            if (t.op().matches("[A-D]")) {
                int n = t.op().charAt(0) - 'A';
                found.add("any" + n);
                found.add(behindStep ? "guarded" + n : "open" + n);
                found.add(within ? "within" + n : "plain" + n);
            }
            for (Term p : t.parts()) {
                namesIn(p, behindStep || t.op().endsWith("."),
                        within || t.op().equals("|") || t.op().startsWith("\\") || t.op().startsWith("["), found);
            }
        }

        Set<Integer> direct(int name, String how) {
            Set<Integer> names = new TreeSet<>();
            Set<String> found = new HashSet<>();
            if (bodies[name] != null) {
                namesIn(bodies[name], false, false, found);
            }
            for (int n = 0; n < 4; n++) {
                if (found.contains(how + n)) {
                    names.add(n);
                }
            }
            return names;
        }

        Set<Integer> comesTo(int name, String how) {
            Set<Integer> all = new TreeSet<>();
            ArrayDeque<Integer> open = new ArrayDeque<>(direct(name, how));
            while (!open.isEmpty()) {
                int n = open.poll();
                if (all.add(n)) {
                    open.addAll(direct(n, how));
                }
            }
            return all;
        }

        int check(int name) {
            if (name < 0 || name > 3) {
                throw new IndexOutOfBoundsException();
            }
            Set<Integer> all = comesTo(name, "any");
            all.add(name);
            if (all.stream().anyMatch(n -> bodies[n] == null)) {
                return 1;
            }
            if (all.stream().anyMatch(n -> comesTo(n, "open").contains(n))) {
                return 2;
            }
            for (int n : all) {
                for (int m : direct(n, "within")) {
                    if (m == n || comesTo(m, "any").contains(n)) {
                        return 3;
                    }
                }
            }
            return 0;
        }

        int load(int first, int second) {
            if (first < 0 || first > 3 || second < 0 || second > 3) {
                throw new IndexOutOfBoundsException();
            }
            if (check(first) != 0 || check(second) != 0) {
                throw new IllegalArgumentException();
            }
            List<Term> states = new ArrayList<>();
            Map<String, Integer> numbers = new HashMap<>();
            List<List<Arc>> found = new ArrayList<>();
            Map<String, List<Step>> known = new HashMap<>();
            try {
                number(Term.of("" + (char) ('A' + first)), states, numbers);
                spread(states, numbers, found, known);
                number(Term.of("" + (char) ('A' + second)), states, numbers);
                spread(states, numbers, found, known);
            } catch (TooLarge e) {
                throw new IllegalStateException();
            }
            arcs = found;
            sizes = new ArrayList<>();
            states.forEach(t -> sizes.add(t.count()));
            secondState = numbers.get("{" + (char) ('A' + second) + "}");
            levels.clear();
            return arcs.size();
        }

        int number(Term t, List<Term> states, Map<String, Integer> numbers) {
            Integer known = numbers.get(t.show());
            if (known != null) {
                return known;
            }
            if (states.size() == 20 || t.count() > 16) {
                throw new TooLarge();
            }
            states.add(t);
            numbers.put(t.show(), states.size() - 1);
            return states.size() - 1;
        }

        void spread(List<Term> states, Map<String, Integer> numbers, List<List<Arc>> found,
                Map<String, List<Step>> known) {
            for (int s = found.size(); s < states.size(); s++) {
                List<Arc> row = new ArrayList<>();
                for (Step step : steps(states.get(s), known)) {
                    row.add(new Arc(step.action(), number(step.to(), states, numbers)));
                }
                found.add(row);
            }
        }

        static int opposite(int k) {
            return k == 0 ? -1 : k < 5 ? k + 4 : k - 4;
        }

        List<Step> steps(Term t, Map<String, List<Step>> known) {
            List<Step> before = known.get(t.show());
            if (before != null) {
                return before;
            }
            List<Step> all = new ArrayList<>();
            String op = t.op();
            if (op.matches("[A-D]")) {
                all.addAll(steps(bodies[op.charAt(0) - 'A'], known));
            } else if (op.endsWith(".")) {
                all.add(new Step(actionOf(op.substring(0, op.length() - 1)), t.parts().get(0)));
            } else if (op.equals("+")) {
                all.addAll(steps(t.parts().get(0), known));
                all.addAll(steps(t.parts().get(1), known));
            } else if (op.equals("|")) {
                sideBySide(t.parts().get(0), t.parts().get(1), all, known);
            } else if (op.startsWith("\\")) {
                int x = actionOf(op.substring(1));
                for (Step p : steps(t.parts().get(0), known)) {
                    if (p.action() != x && p.action() != x + 4) {
                        all.add(new Step(p.action(), Term.of(op, p.to())));
                    }
                }
            } else if (op.startsWith("[")) {
                int y = actionOf(op.substring(1, 2));
                int x = actionOf(op.substring(3, 4));
                for (Step p : steps(t.parts().get(0), known)) {
                    int k = p.action() == x ? y : p.action() == x + 4 ? y + 4 : p.action();
                    all.add(new Step(k, Term.of(op, p.to())));
                }
            }
            Map<String, Step> once = new java.util.LinkedHashMap<>();
            for (Step p : all) {
                once.putIfAbsent(p.action() + p.to().show(), p);
            }
            if (once.size() > 8) {
                throw new TooLarge();
            }
            List<Step> kept = new ArrayList<>(once.values());
            known.put(t.show(), kept);
            return kept;
        }

        void sideBySide(Term p, Term q, List<Step> all, Map<String, List<Step>> known) {
            List<Step> ofP = steps(p, known);
            List<Step> ofQ = steps(q, known);
            for (Step m : ofP) {
                all.add(new Step(m.action(), Term.of("|", m.to(), q)));
            }
            for (Step m : ofQ) {
                all.add(new Step(m.action(), Term.of("|", p, m.to())));
            }
            for (Step m : ofP) {
                for (Step n : ofQ) {
                    if (m.action() != 0 && n.action() == opposite(m.action())) {
                        all.add(new Step(0, Term.of("|", m.to(), n.to())));
                    }
                }
            }
        }

        int states() {
            return arcs.size();
        }

        int second() {
            if (arcs.isEmpty()) {
                throw new NoSuchElementException();
            }
            return secondState;
        }

        void need(int s) {
            if (s < 0 || s >= arcs.size()) {
                throw new NoSuchElementException();
            }
        }

        int moves(int s) {
            need(s);
            return arcs.get(s).size();
        }

        int move(int s, int k, int what) {
            need(s);
            if (k < 0 || k >= arcs.get(s).size() || (what != 0 && what != 1)) {
                throw new NoSuchElementException();
            }
            return what == 0 ? arcs.get(s).get(k).action() : arcs.get(s).get(k).to();
        }

        int size(int s) {
            need(s);
            return sizes.get(s);
        }

        Set<Integer> targets(int s, int k, boolean weakly) {
            Set<Integer> all = new TreeSet<>();
            if (!weakly) {
                for (Arc a : arcs.get(s)) {
                    if (a.action() == k) {
                        all.add(a.to());
                    }
                }
                return all;
            }
            for (int v : inner(s)) {
                if (k == 0) {
                    all.add(v);
                }
                for (int w : targets(v, k, false)) {
                    all.addAll(inner(w));
                }
            }
            return all;
        }

        Set<Integer> inner(int s) {
            Set<Integer> all = new LinkedHashSet<>();
            ArrayDeque<Integer> open = new ArrayDeque<>(List.of(s));
            while (!open.isEmpty()) {
                int v = open.poll();
                if (all.add(v)) {
                    open.addAll(targets(v, 0, false));
                }
            }
            return all;
        }

        /** least[s][u] is the least level at which the two are not alike, 0 when there is none. */
        int[][] least(boolean weakly) {
            return levels.computeIfAbsent(weakly, w -> {
                int n = arcs.size();
                List<List<Set<Integer>>> all = new ArrayList<>();
                for (int s = 0; s < n; s++) {
                    List<Set<Integer>> row = new ArrayList<>();
                    for (int k = 0; k < 9; k++) {
                        row.add(targets(s, k, w));
                    }
                    all.add(row);
                }
                int[][] least = new int[n][n];
                for (int level = 1; level <= n + 2; level++) {
                    int[][] next = new int[n][n];
                    for (int s = 0; s < n; s++) {
                        for (int u = 0; u < n; u++) {
                            next[s][u] = least[s][u];
                            if (least[s][u] == 0 && teller(all, least, s, u, level - 1) >= 0) {
                                next[s][u] = level;
                            }
                        }
                    }
                    least = next;
                }
                return least;
            });
        }

        static int teller(List<List<Set<Integer>>> all, int[][] least, int s, int u, int below) {
            for (int k = 0; k < 9; k++) {
                if (unmatched(all.get(s).get(k), all.get(u).get(k), least, below)
                        || unmatched(all.get(u).get(k), all.get(s).get(k), least, below)) {
                    return k;
                }
            }
            return -1;
        }

        static boolean unmatched(Set<Integer> ones, Set<Integer> others, int[][] least, int below) {
            for (int v : ones) {
                boolean matched = false;
                for (int w : others) {
                    matched |= least[v][w] == 0 || least[v][w] > below;
                }
                if (!matched) {
                    return true;
                }
            }
            return false;
        }

        int level(int s, int u, boolean weakly) {
            need(s);
            need(u);
            return least(weakly)[s][u];
        }

        int tells(int s, int u, boolean weakly) {
            int level = level(s, u, weakly);
            if (level == 0) {
                throw new NoSuchElementException();
            }
            List<List<Set<Integer>>> all = new ArrayList<>();
            for (int v = 0; v < arcs.size(); v++) {
                List<Set<Integer>> row = new ArrayList<>();
                for (int k = 0; k < 9; k++) {
                    row.add(targets(v, k, weakly));
                }
                all.add(row);
            }
            return teller(all, least(weakly), s, u, level - 1);
        }

        int leader(int s, boolean weakly) {
            need(s);
            for (int u = 0; u < s; u++) {
                if (least(weakly)[s][u] == 0) {
                    return u;
                }
            }
            return s;
        }

        int classes(boolean weakly) {
            Set<Integer> leaders = new HashSet<>();
            for (int s = 0; s < arcs.size(); s++) {
                leaders.add(leader(s, weakly));
            }
            return leaders.size();
        }

        int stuck() {
            int best = -1;
            int[] far = new int[arcs.size()];
            Arrays.fill(far, 99);
            for (int round = 0; round <= arcs.size() && far.length > 0; round++) {
                far[0] = 0;
                for (int s = 0; s < far.length; s++) {
                    for (Arc a : arcs.get(s)) {
                        far[a.to()] = Math.min(far[a.to()], far[s] + 1);
                    }
                }
            }
            for (int s = 0; s < far.length; s++) {
                if (arcs.get(s).isEmpty() && far[s] < 99 && (best < 0 || far[s] < best)) {
                    best = far[s];
                }
            }
            return best;
        }

        int formula() {
            String text = line;
            line = "";
            Node node = deepest(text) <= 4 ? whole(text) : null;
            if (node == null || !node.closed(Set.of()) || node.bindsTwice(new HashSet<>())) {
                throw new IllegalArgumentException();
            }
            wanted = node;
            return node.all().size();
        }

        static Node whole(String text) {
            Matcher bind = Pattern.compile("([mn][xyz])\\.(.*)").matcher(text);
            if (bind.matches()) {
                Node inner = whole(bind.group(2));
                return inner == null ? null : new Node(bind.group(1), inner);
            }
            return join("|", split(text, '|'));
        }

        static Node join(String op, List<String> texts) {
            if (texts == null) {
                return null;
            }
            List<Node> nodes = new ArrayList<>();
            for (String t : texts) {
                Node node = op.equals("|") ? join("&", split(t, '&')) : item(t);
                if (node == null) {
                    return null;
                }
                nodes.add(node);
            }
            Node whole = nodes.get(nodes.size() - 1);
            for (int i = nodes.size() - 2; i >= 0; i--) {
                whole = new Node(op, nodes.get(i), whole);
            }
            return whole;
        }

        static Node item(String text) {
            Matcher some = Pattern.compile("(<(\\*|t|'?[a-d])>|\\[(\\*|t|'?[a-d])\\])(.*)").matcher(text);
            if (some.matches()) {
                Node inner = item(some.group(4));
                return inner == null ? null : new Node(some.group(1), inner);
            }
            if (text.matches("[01xyz]")) {
                return new Node(text);
            }
            if (text.startsWith("(") && text.endsWith(")") && text.length() > 2) {
                return whole(text.substring(1, text.length() - 1));
            }
            return null;
        }

        boolean holds(int s) {
            if (wanted == null) {
                throw new IllegalStateException();
            }
            need(s);
            return wanted.states(this, new HashMap<>()).contains(s);
        }

        int pairs(int s) {
            if (wanted == null) {
                throw new IllegalStateException();
            }
            need(s);
            List<Node> parts = wanted.all();
            Set<List<Integer>> met = new HashSet<>();
            ArrayDeque<List<Integer>> open = new ArrayDeque<>(List.of(List.of(s, 0)));
            while (!open.isEmpty()) {
                List<Integer> pair = open.poll();
                if (!met.add(pair)) {
                    continue;
                }
                Node part = parts.get(pair.get(1));
                if (part.op.matches("[xyz]")) {
                    for (int i = 0; i < parts.size(); i++) {
                        if (parts.get(i).op.matches("[mn]" + part.op)) {
                            open.add(List.of(pair.get(0), i));
                        }
                    }
                } else if (part.op.matches("[<\\[].*")) {
                    for (Arc a : arcs.get(pair.get(0))) {
                        if (part.fits(a)) {
                            open.add(List.of(a.to(), at(parts, part.parts.get(0))));
                        }
                    }
                } else {
                    for (Node p : part.parts) {
                        open.add(List.of(pair.get(0), at(parts, p)));
                    }
                }
            }
            return met.size();
        }

        static int at(List<Node> parts, Node part) {
            for (int i = 0; i < parts.size(); i++) {
                if (parts.get(i) == part) {
                    return i;
                }
            }
            throw new AssertionError();
        }
    }

    static final class Node {
        final String op;
        final List<Node> parts;

        Node(String op, Node... parts) {
            this.op = op;
            this.parts = List.of(parts);
        }

        List<Node> all() {
            List<Node> all = new ArrayList<>(List.of(this));
            parts.forEach(p -> all.addAll(p.all()));
            return all;
        }

        boolean closed(Set<String> bound) {
            if (op.matches("[xyz]")) {
                return bound.contains(op);
            }
            Set<String> more = new HashSet<>(bound);
            if (op.matches("[mn].")) {
                more.add(op.substring(1));
            }
            return parts.stream().allMatch(p -> p.closed(more));
        }

        boolean bindsTwice(Set<String> met) {
            if (op.matches("[mn].") && !met.add(op.substring(1))) {
                return true;
            }
            return parts.stream().anyMatch(p -> p.bindsTwice(met));
        }

        boolean fits(Arc a) {
            int k = actionOf(op.substring(1, op.length() - 1));
            return k == 9 || k == a.action();
        }

        Set<Integer> states(Model m, Map<String, Set<Integer>> env) {
            Set<Integer> every = new TreeSet<>();
            for (int s = 0; s < m.arcs.size(); s++) {
                every.add(s);
            }
            if (op.matches("[mn].")) {
                return fixed(m, env, every);
            }
            Set<Integer> have = new TreeSet<>();
            if (op.equals("1")) {
                return every;
            } else if (op.matches("[xyz]")) {
                return env.get(op);
            } else if (op.equals("|")) {
                have.addAll(parts.get(0).states(m, env));
                have.addAll(parts.get(1).states(m, env));
            } else if (op.equals("&")) {
                have.addAll(parts.get(0).states(m, env));
                have.retainAll(parts.get(1).states(m, env));
            } else if (!op.equals("0")) {
                Set<Integer> inner = parts.get(0).states(m, env);
                for (int s : every) {
                    boolean some = m.arcs.get(s).stream().anyMatch(a -> fits(a) && inner.contains(a.to()));
                    boolean all = m.arcs.get(s).stream().allMatch(a -> !fits(a) || inner.contains(a.to()));
                    if (op.startsWith("<") ? some : all) {
                        have.add(s);
                    }
                }
            }
            return have;
        }

        Set<Integer> fixed(Model m, Map<String, Set<Integer>> env, Set<Integer> every) {
            boolean least = op.startsWith("m");
            if (every.size() > 4) {
                return approached(m, env, least ? new TreeSet<>() : every);
            }
            Set<Integer> best = null;
            for (int bits = 0; bits < 1 << every.size(); bits++) {
                Set<Integer> set = new TreeSet<>();
                for (int s : every) {
                    if ((bits >> s & 1) == 1) {
                        set.add(s);
                    }
                }
                boolean better = best == null || (least ? best.size() > set.size() : best.size() < set.size());
                if (better && parts.get(0).states(m, with(env, set)).equals(set)) {
                    best = set;
                }
            }
            return best;
        }

        Set<Integer> approached(Model m, Map<String, Set<Integer>> env, Set<Integer> start) {
            Set<Integer> set = start;
            Set<Integer> next = parts.get(0).states(m, with(env, set));
            while (!next.equals(set)) {
                set = next;
                next = parts.get(0).states(m, with(env, set));
            }
            return set;
        }

        Map<String, Set<Integer>> with(Map<String, Set<Integer>> env, Set<Integer> set) {
            Map<String, Set<Integer>> more = new HashMap<>(env);
            more.put(op.substring(1), set);
            return more;
        }
    }
}
