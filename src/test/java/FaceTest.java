import java.lang.reflect.Constructor;
import java.lang.reflect.Field;
import java.lang.reflect.Method;
import java.lang.reflect.Modifier;
import java.nio.file.Files;
import java.nio.file.Path;
import java.util.Set;
import java.util.TreeSet;

/** The public face is the document's and no more, and the source keeps to what is permitted. */
public final class FaceTest {
    private static final Path SOURCE = Path.of("src/main/java/HillBeacons.java");
    private static final Path DOCUMENT = Path.of("../shared/DOC.md");

    public static void main(String[] args) throws Exception {
        facesAgree();
        nothingElseIsOpen();
        sourceKeepsOff();
        dearCallsMakeNoObjects();
        Expect.end();
    }

    private static void facesAgree() throws Exception {
        Set<String> due = new TreeSet<>();
        boolean inFace = false;
        for (String line : Files.readAllLines(DOCUMENT)) {
            if (line.startsWith("```")) {
                inFace = line.equals("```java");
            } else if (inFace && line.startsWith("    public ")) {
                due.add(line.trim().replace(";", ""));
            }
        }
        Set<String> got = new TreeSet<>();
        for (Constructor<?> made : HillBeacons.class.getConstructors()) {
            got.add("public HillBeacons()");
            Expect.same("parameters of the constructor", made.getParameterCount(), 0);
        }
        for (Method method : HillBeacons.class.getDeclaredMethods()) {
            if (Modifier.isPublic(method.getModifiers())) {
                got.add(textOf(method));
            }
        }
        Set<String> plain = new TreeSet<>();
        for (String line : due) {
            plain.add(line.replaceAll("(int|boolean|long|double) \\w+(?=[,)])", "$1"));
        }
        Expect.same("members of the document's face", due.size(), 40);
        if (!got.equals(plain)) {
            Expect.fail("the face is " + got + ", due is " + plain);
        }
    }

    private static String textOf(Method method) {
        StringBuilder text = new StringBuilder("public ");
        text.append(method.getReturnType()).append(' ').append(method.getName()).append('(');
        for (int i = 0; i < method.getParameterCount(); i++) {
            text.append(i == 0 ? "" : ", ").append(method.getParameterTypes()[i]);
        }
        text.append(')');
        for (int i = 0; i < method.getExceptionTypes().length; i++) {
            text.append(i == 0 ? " throws " : ", ");
            text.append(method.getExceptionTypes()[i].getSimpleName());
        }
        return text.toString();
    }

    private static void nothingElseIsOpen() {
        Set<String> open = new TreeSet<>();
        Set<String> closed = new TreeSet<>();
        Expect.same("the class is final", Modifier.isFinal(HillBeacons.class.getModifiers()), true);
        for (Method method : HillBeacons.class.getDeclaredMethods()) {
            int how = method.getModifiers();
            (Modifier.isPublic(how) ? open : closed).add(method.getName());
            Expect.same(method + " is public or private",
                    Modifier.isPublic(how) || Modifier.isPrivate(how), true);
        }
        for (Field field : HillBeacons.class.getDeclaredFields()) {
            Expect.same(field + " is private", Modifier.isPrivate(field.getModifiers()), true);
            Expect.same(field + " is final", Modifier.isFinal(field.getModifiers()), true);
        }
        for (Class<?> inside : HillBeacons.class.getDeclaredClasses()) {
            Expect.same(inside + " is static", Modifier.isStatic(inside.getModifiers()), true);
            for (Method method : inside.getDeclaredMethods()) {
                closed.add(method.getName());
            }
            Expect.same(inside + " has at most twenty fields",
                    inside.getDeclaredFields().length <= 20, true);
        }
        closed.retainAll(open);
        Expect.same("inner methods with a name of the face " + closed, closed.size(), 0);
    }

    private static void sourceKeepsOff() throws Exception {
        String source = Files.readString(SOURCE);
        String[] banned = {"import ", "package ", "->", "::", "synchronized", "assert ", "finally",
            "catch", "instanceof", "System.", "Thread", "Exact(", "equals(", "hashCode",
            "toString", "protected"};
        for (String word : banned) {
            Expect.same("the source has '" + word + "'", source.contains(word), false);
        }
        for (char sign : source.toCharArray()) {
            if (sign != '\n' && (sign < 32 || sign > 126)) {
                Expect.fail("the source has the sign " + (int) sign);
            }
        }
    }

    /** All calls of a run share one room: it must not fill, even by the dearest. */
    private static void dearCallsMakeNoObjects() {
        com.sun.management.ThreadMXBean counter = (com.sun.management.ThreadMXBean)
                java.lang.management.ManagementFactory.getThreadMXBean();
        dearCalls(Lands.lineOf(10, 30, 9, 5));
        HillBeacons land = Lands.lineOf(10, 30, 9, 5);
        long before = counter.getCurrentThreadAllocatedBytes();
        for (int i = 0; i < 80; i++) {
            dearCalls(land);
        }
        long bytes = counter.getCurrentThreadAllocatedBytes() - before;
        Expect.same("480 dear calls made " + bytes + " bytes", bytes < 8_000, true);
    }

    private static void dearCalls(HillBeacons land) {
        land.bestHill();
        land.reachOf(9);
        land.minutesUntilBurning(9);
        land.burningAfter(100);
        land.fewestSteps(0, 9);
        land.digest();
    }
}
