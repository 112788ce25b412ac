import java.io.ByteArrayInputStream;
import java.io.DataInputStream;
import java.io.IOException;
import java.io.InputStream;
import java.lang.reflect.Field;
import java.lang.reflect.Method;
import java.lang.reflect.Modifier;
import java.nio.file.Files;
import java.nio.file.Path;
import java.util.ArrayList;
import java.util.HashMap;
import java.util.HashSet;
import java.util.List;
import java.util.Map;
import java.util.Set;
import java.util.TreeMap;
import java.util.TreeSet;
import java.util.regex.Matcher;
import java.util.regex.Pattern;
import java.util.stream.Collectors;

/** The rules of LANGUAGE.md that can be seen in the source or in what javac makes of it. */
public final class LanguageTest {
    private static final String PROGRAM = "StepWorkbench";
    private static final Set<String> LIBRARY = Set.of("java/lang/Object.<init>", "java/lang/Integer.bitCount",
            "java/lang/System.arraycopy", "java/util/Arrays.copyOf", "java/util/Arrays.fill");
    private static final Set<String> EXCEPTIONS = Set.of("java/lang/IllegalStateException",
            "java/lang/IllegalArgumentException", "java/lang/IndexOutOfBoundsException",
            "java/util/NoSuchElementException");
    private static final int METHOD_LINES = 60;
    private static final int CALL_DEPTH = 8;
    private static int wrong = 0;

    /** What the code of one method does, as far as the rules ask. */
    static final class Code {
        final String owner;
        final String name;
        final boolean isPrivate;
        final Set<String> calls = new TreeSet<>();
        final Set<String> made = new TreeSet<>();
        boolean throwsOne;
        boolean catches;

        Code(String owner, String name, boolean isPrivate) {
            this.owner = owner;
            this.name = name;
            this.isPrivate = isPrivate;
        }
    }

    private static final Map<String, Code> codes = new TreeMap<>();

    public static void main(String[] args) throws IOException {
        source();
        classes();
        for (Class<?> c : all()) {
            try (InputStream in = LanguageTest.class.getResourceAsStream(c.getName() + ".class")) {
                new ClassReader(in.readAllBytes()).read();
            }
        }
        need(codes.size() > 100, "only " + codes.size() + " methods were read");
        library();
        objects();
        exceptions();
        recursion();
        depth();
        System.out.println(wrong == 0 ? "the rules that can be seen are kept" : wrong + " things are not as due");
        if (wrong != 0) {
            System.exit(1);
        }
    }

    private static void need(boolean so, String what) {
        if (!so) {
            wrong++;
            System.out.println(what);
        }
    }

    private static List<Class<?>> all() {
        List<Class<?>> all = new ArrayList<>(List.of(StepWorkbench.class.getDeclaredClasses()));
        all.add(StepWorkbench.class);
        return all;
    }

    private static void source() throws IOException {
        String text = Files.readString(Path.of("src/main/java/StepWorkbench.java"));
        for (String never : new String[] {"->", "::", "static {", "try ", "finally", "synchronized", "assert ",
                "package ", "System.out", "Math.random", "hashCode", "String.format", "var ", "java.io"}) {
            need(!text.contains(never), "the program has " + never);
        }
        need(text.lines().filter(l -> l.startsWith("import ")).collect(Collectors.toSet())
                .equals(Set.of("import java.util.Arrays;", "import java.util.NoSuchElementException;")),
                "rule 4: other imports than the two");
        need(text.chars().allMatch(c -> c < 128), "a character that is not plain");
        Matcher boolishFields = Pattern.compile("boolean (\\w+)").matcher(text);
        while (boolishFields.find()) {
            need(!Pattern.compile("\\b" + boolishFields.group(1) + " [|&^]= ").matcher(text).find(),
                    "rule 10: a mask on the boolean " + boolishFields.group(1));
        }
        methodLines(text.lines().toList());
    }

    /** A method begins where its indentation is closed again by a lone bracket. */
    private static void methodLines(List<String> lines) {
        for (int i = 0; i < lines.size(); i++) {
            String line = lines.get(i);
            String indent = line.substring(0, line.length() - line.stripLeading().length());
            boolean begins = line.endsWith("{") && line.contains("(") && !line.contains(" class ")
                    && (indent.length() == 4 || indent.length() == 8);
            for (int j = i; begins && j < lines.size(); j++) {
                if (lines.get(j).equals(indent + "}")) {
                    need(j - i < METHOD_LINES, "rule 11: a method of " + (j - i + 1) + " lines: " + line.strip());
                    break;
                }
            }
        }
    }

    private static void classes() {
        List<Class<?>> all = all();
        need(all.size() <= 12, "rule 11: more than twelve classes");
        Set<String> open = new HashSet<>();
        for (Method m : StepWorkbench.class.getMethods()) {
            open.add(m.getDeclaringClass() == StepWorkbench.class ? m.getName() : "");
        }
        for (Class<?> c : all) {
            int fields = 0;
            for (Field f : c.getDeclaredFields()) {
                boolean isStatic = Modifier.isStatic(f.getModifiers());
                fields += isStatic ? 0 : 1;
                need(!isStatic || Modifier.isFinal(f.getModifiers()), "rule 5: " + f + " is static and not final");
                need(!isStatic || f.getType() == int.class, "rule 5: " + f + " is no constant of int");
            }
            need(fields <= 20, "rule 11: " + c + " has more than twenty fields");
            need(c == StepWorkbench.class || Modifier.isStatic(c.getModifiers()), "rule 2: " + c + " is not static");
            for (Method m : c.getDeclaredMethods()) {
                need(m.getParameterCount() <= 7, "rule 11: " + m + " takes more than seven");
                need(c == StepWorkbench.class && Modifier.isPublic(m.getModifiers()) || !open.contains(m.getName()),
                        "rule 1: " + m + " bears the name of a public method");
            }
        }
    }

    private static void library() {
        for (Code code : codes.values()) {
            for (String call : code.calls) {
                String owner = call.substring(0, call.indexOf('.'));
                String member = call.substring(0, call.indexOf('('));
                need(owner.startsWith(PROGRAM) || LIBRARY.contains(member)
                        || EXCEPTIONS.contains(owner) && member.endsWith(".<init>"),
                        "rule 4: " + code.owner + "." + code.name + " calls " + call);
            }
        }
    }

    /** Rows and objects are made in constructors alone; only exceptions, and rows that grow, are made by calls. */
    private static void objects() {
        for (Code code : codes.values()) {
            for (String made : code.made) {
                need(code.name.startsWith("<init>") || EXCEPTIONS.contains(made),
                        "rule 12: " + code.owner + "." + code.name + " makes " + made);
            }
            boolean grows = code.calls.stream().anyMatch(c -> c.startsWith("java/util/Arrays.copyOf"));
            need(!grows || code.name.startsWith("hasRoom"), "rule 12: " + code.owner + "." + code.name + " copies rows");
        }
    }

    private static void exceptions() {
        for (Code code : codes.values()) {
            need(!code.catches, "rule 6: " + code.owner + "." + code.name + " catches");
            need(!code.throwsOne || !code.name.startsWith("<init>"), "rule 6: a throw in " + code.owner + "'s constructor");
            need(!code.throwsOne || code.owner.equals(PROGRAM), "rule 6: " + code.owner + "." + code.name + " throws");
            need(!code.name.startsWith("<clinit>"), "rule 5: " + code.owner + " has a static initialiser");
        }
    }

    private static Set<String> reached(String from) {
        Set<String> reached = new HashSet<>();
        List<String> open = new ArrayList<>(List.of(from));
        while (!open.isEmpty()) {
            Code code = codes.get(open.remove(open.size() - 1));
            for (String call : code == null ? Set.<String>of() : code.calls) {
                if (reached.add(call)) {
                    open.add(call);
                }
            }
        }
        return reached;
    }

    private static void recursion() {
        int found = 0;
        for (Map.Entry<String, Code> e : codes.entrySet()) {
            if (reached(e.getKey()).contains(e.getKey())) {
                found++;
                need(e.getValue().isPrivate, "rule 8: " + e.getKey() + " calls itself and is not private");
                need(e.getKey().contains("I)"), "rule 8: " + e.getKey() + " calls itself and carries no depth last");
            }
        }
        need(found > 0, "rule 8: no recursion was found, so the call graph was not read");
    }

    private static void depth() {
        Map<String, Set<String>> reached = new HashMap<>();
        codes.keySet().forEach(c -> reached.put(c, reached(c)));
        for (String call : codes.keySet()) {
            int depth = depth(call, reached, new HashMap<>());
            need(depth <= CALL_DEPTH, "rule 11: calls go " + depth + " deep from " + call);
        }
    }

    /** How deep calls go that are no recursion: methods that call one another count as one. */
    private static int depth(String call, Map<String, Set<String>> reached, Map<String, Integer> known) {
        Integer before = known.get(call);
        if (before != null) {
            return before;
        }
        Set<String> group = new TreeSet<>(Set.of(call));
        for (String c : reached.getOrDefault(call, Set.of())) {
            if (reached.getOrDefault(c, Set.of()).contains(call)) {
                group.add(c);
            }
        }
        int below = 0;
        for (String member : group) {
            for (String next : codes.containsKey(member) ? codes.get(member).calls : Set.<String>of()) {
                below = group.contains(next) ? below : Math.max(below, depth(next, reached, known));
            }
        }
        known.put(call, below + 1);
        return below + 1;
    }

    /** Reads a class file: its constants, and of each method the calls, the things made, the throws and the catches. */
    static final class ClassReader {
        private static final int UTF8 = 1;
        private static final int LONG = 5;
        private static final int DOUBLE = 6;

        private final DataInputStream in;
        private Object[] constants;
        private String owner;

        ClassReader(byte[] bytes) {
            in = new DataInputStream(new ByteArrayInputStream(bytes));
        }

        void read() throws IOException {
            in.readInt();
            in.readInt();
            readConstants();
            in.readUnsignedShort();
            owner = text(in.readUnsignedShort());
            in.readUnsignedShort();
            in.skipBytes(2 * in.readUnsignedShort());
            readMembers(false);
            readMembers(true);
        }

        private void readConstants() throws IOException {
            constants = new Object[in.readUnsignedShort()];
            for (int i = 1; i < constants.length; i++) {
                int tag = in.readUnsignedByte();
                switch (tag) {
                    case UTF8 -> constants[i] = in.readUTF();
                    case LONG, DOUBLE -> {
                        in.readLong();
                        i++;
                    }
                    case 7, 8, 16, 19, 20 -> constants[i] = new int[] {in.readUnsignedShort()};
                    case 15 -> in.skipBytes(3);
                    case 3, 4 -> in.readInt();
                    default -> constants[i] = new int[] {in.readUnsignedShort(), in.readUnsignedShort()};
                }
            }
        }

        /** The text of a constant, directly or by the first constant that it names. */
        private String text(int i) {
            return constants[i] instanceof int[] other ? text(other[0]) : (String) constants[i];
        }

        private String member(int i) {
            int[] pair = (int[]) constants[i];
            int[] nameAndType = (int[]) constants[pair[1]];
            return text(pair[0]) + "." + text(nameAndType[0]) + text(nameAndType[1]);
        }

        private void readMembers(boolean methods) throws IOException {
            for (int n = in.readUnsignedShort(); n > 0; n--) {
                int flags = in.readUnsignedShort();
                String name = text(in.readUnsignedShort()) + text(in.readUnsignedShort());
                Code code = new Code(owner, name, Modifier.isPrivate(flags));
                for (int a = in.readUnsignedShort(); a > 0; a--) {
                    String attribute = text(in.readUnsignedShort());
                    byte[] content = in.readNBytes(in.readInt());
                    if (attribute.equals("Code")) {
                        readCode(content, code);
                    }
                }
                if (methods) {
                    codes.put(owner + "." + name, code);
                }
            }
        }

        private void readCode(byte[] content, Code code) throws IOException {
            DataInputStream rows = new DataInputStream(new ByteArrayInputStream(content));
            rows.readInt();
            byte[] body = rows.readNBytes(rows.readInt());
            code.catches = rows.readUnsignedShort() > 0;
            for (int at = 0; at < body.length; at += length(body, at)) {
                int op = body[at] & 255;
                if (op == 191) {
                    code.throwsOne = true;
                } else if (op >= 182 && op <= 185) {
                    code.calls.add(member(two(body, at + 1)));
                } else if (op == 186) {
                    code.calls.add("invokedynamic.(");
                } else if (op == 187) {
                    code.made.add(text(two(body, at + 1)));
                } else if (op == 188 || op == 189 || op == 197) {
                    code.made.add("an array");
                }
            }
        }

        private static int two(byte[] body, int at) {
            return (body[at] & 255) << 8 | body[at + 1] & 255;
        }

        private static int four(byte[] body, int at) {
            return two(body, at) << 16 | two(body, at + 2);
        }

        /** How many bytes an instruction takes, by the tables of the Java Virtual Machine Specification. */
        private static int length(byte[] body, int at) {
            int op = body[at] & 255;
            int aligned = (at + 4) / 4 * 4;
            if (op == 170) {
                return aligned - at + 12 + 4 * (four(body, aligned + 8) - four(body, aligned + 4) + 1);
            }
            if (op == 171) {
                return aligned - at + 8 + 8 * four(body, aligned + 4);
            }
            if (op == 196) {
                return (body[at + 1] & 255) == 132 ? 6 : 4;
            }
            if (op == 185 || op == 186 || op == 200 || op == 201) {
                return 5;
            }
            if (op == 197) {
                return 4;
            }
            if (op == 17 || op == 19 || op == 20 || op == 132 || op >= 153 && op <= 168 || op >= 178 && op <= 184
                    || op == 187 || op == 189 || op == 192 || op == 193 || op == 198 || op == 199) {
                return 3;
            }
            if (op == 16 || op == 18 || op >= 21 && op <= 25 || op >= 54 && op <= 58 || op == 169 || op == 188) {
                return 2;
            }
            return 1;
        }
    }
}
