import java.lang.management.ManagementFactory;
import java.lang.reflect.Field;
import java.lang.reflect.Method;
import java.lang.reflect.Modifier;
import java.util.Arrays;
import java.util.List;
import java.util.Set;
import java.util.TreeSet;
import java.util.stream.Collectors;

/** The class's face as the document shows it, and the room that a run takes. */
public final class FaceTest {
    private static final Set<String> FACE = new TreeSet<>(List.of(
            "boolean type(int) IllegalArgumentException",
            "int define() IllegalArgumentException",
            "int formula() IllegalArgumentException",
            "int check(int) IndexOutOfBoundsException",
            "int load(int,int) IndexOutOfBoundsException,IllegalArgumentException,IllegalStateException",
            "int states() ",
            "int second() NoSuchElementException",
            "int moves(int) NoSuchElementException",
            "int move(int,int,int) NoSuchElementException",
            "int size(int) NoSuchElementException",
            "int level(int,int,boolean) NoSuchElementException",
            "int tells(int,int,boolean) NoSuchElementException",
            "int leader(int,boolean) NoSuchElementException",
            "int classes(boolean) ",
            "int stuck() ",
            "boolean holds(int) IllegalStateException,NoSuchElementException",
            "int pairs(int) IllegalStateException,NoSuchElementException"));
    private static int wrong = 0;

    public static void main(String[] args) {
        face();
        room();
        System.out.println(wrong == 0 ? "the face and the room are as due" : wrong + " things are not as due");
        if (wrong != 0) {
            System.exit(1);
        }
    }

    private static void need(boolean so, String what) {
        if (!so) {
            wrong++;
            System.out.println(what);
        }
    }

    private static String names(Class<?>[] classes) {
        return Arrays.stream(classes).map(Class::getSimpleName).collect(Collectors.joining(","));
    }

    private static void face() {
        Class<?> c = StepWorkbench.class;
        need(c.getModifiers() == (Modifier.PUBLIC | Modifier.FINAL), "the class is not public and final alone");
        need(c.getDeclaredConstructors().length == 1 && c.getConstructors().length == 1
                && c.getConstructors()[0].getParameterCount() == 0, "not one public constructor without arguments");
        Set<String> found = new TreeSet<>();
        for (Method m : c.getDeclaredMethods()) {
            if (Modifier.isPublic(m.getModifiers())) {
                found.add(m.getReturnType() + " " + m.getName() + "(" + names(m.getParameterTypes()) + ") "
                        + names(m.getExceptionTypes()));
            } else {
                need(Modifier.isPrivate(m.getModifiers()), m + " is neither public nor private");
            }
        }
        need(found.equals(FACE), "the face is " + found);
        for (Field f : c.getDeclaredFields()) {
            need(Modifier.isPrivate(f.getModifiers()), f + " is not private");
        }
    }

    private static void write(StepWorkbench w, String text) {
        for (int i = 0; i < text.length(); i++) {
            w.type(text.charAt(i));
        }
    }

    /** One object and about 512 of the dearest calls, which are to make next to nothing. */
    private static void dearRun() {
        StepWorkbench w = new StepWorkbench();
        for (String d : new String[] {"A=(B|C)\\a", "B=(C|C)\\b+'a.B", "C=D[b/a]", "D=b.0+a.D+t.D"}) {
            write(w, d);
            w.define();
        }
        write(w, "nx.my.nz.<a>x|<t>y&z");
        w.formula();
        for (int i = 0; i < 80; i++) {
            w.load(i % 4, 3);
            w.classes(true);
            w.classes(false);
            w.holds(0);
            w.pairs(0);
        }
    }

    private static void room() {
        com.sun.management.ThreadMXBean bean = (com.sun.management.ThreadMXBean) ManagementFactory.getThreadMXBean();
        long id = Thread.currentThread().getId();
        for (int i = 0; i < 3; i++) {
            dearRun();
        }
        long before = bean.getThreadAllocatedBytes(id);
        dearRun();
        long bytes = bean.getThreadAllocatedBytes(id) - before;
        need(bytes < 100_000, "a run of dear calls made " + bytes + " bytes of objects");
    }
}
