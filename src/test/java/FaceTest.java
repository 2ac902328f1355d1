import java.io.IOException;
import java.lang.reflect.Constructor;
import java.lang.reflect.Field;
import java.lang.reflect.Member;
import java.lang.reflect.Method;
import java.lang.reflect.Modifier;
import java.nio.file.Files;
import java.nio.file.Path;
import java.util.Set;
import java.util.TreeSet;
import java.util.stream.Collectors;
import java.util.stream.Stream;

/** The face of the class is just what the document shows, and no machine's exception is ever answered. */
public final class FaceTest {
    private static final Check CHECK = new Check("FaceTest");

    public static void main(String[] args) throws IOException {
        String doc = Files.readString(Path.of("../shared/DOC.md"));
        String face = doc.substring(doc.indexOf("public final class LoanSchedule {"), doc.indexOf("## Terms"));
        Set<String> want = new TreeSet<>();
        for (String line : face.split("\n")) {
            String s = line.trim().replaceAll("\\s*=.*|\\s*throws.*|;.*", "");
            if (s.startsWith("public ") && !s.contains(" class ")) {
                want.add(s.replaceAll("(int|boolean) [a-zA-Z]+(?=[,)])", "$1"));
            }
        }
        CHECK.due("the number of promised members", want.size(), 67);
        CHECK.due("members", members(), want);
        CHECK.due("the class", Modifier.toString(LoanSchedule.class.getModifiers()), "public final");
        privateNames();
        machineExceptions();
        CHECK.end();
    }

    private static String types(Class<?>[] types) {
        return Stream.of(types).map(Class::getSimpleName).collect(Collectors.joining(", ", "(", ")"));
    }

    private static boolean hidden(Member m) {
        return Modifier.isPrivate(m.getModifiers()) || m.isSynthetic();
    }

    private static Set<String> members() {
        Set<String> got = new TreeSet<>();
        for (Field f : LoanSchedule.class.getDeclaredFields()) {
            if (!hidden(f)) {
                got.add(Modifier.toString(f.getModifiers()) + " " + f.getType().getSimpleName() + " " + f.getName());
            }
        }
        for (Constructor<?> c : LoanSchedule.class.getDeclaredConstructors()) {
            if (!hidden(c)) {
                got.add("public LoanSchedule" + types(c.getParameterTypes()));
            }
        }
        for (Method m : LoanSchedule.class.getDeclaredMethods()) {
            if (!hidden(m)) {
                got.add(Modifier.toString(m.getModifiers()) + " " + m.getReturnType().getSimpleName() + " " + m.getName()
                    + types(m.getParameterTypes()));
            }
        }
        return got;
    }

    /** LANGUAGE.md, rules 1 and 11: names of their own for private methods; classes private or package-visible, static. */
    private static void privateNames() {
        Set<String> publicNames = new TreeSet<>();
        for (Method m : LoanSchedule.class.getDeclaredMethods()) {
            if (Modifier.isPublic(m.getModifiers())) {
                publicNames.add(m.getName());
            }
        }
        Class<?>[] inner = LoanSchedule.class.getDeclaredClasses();
        CHECK.due("few classes", inner.length <= 12, true);
        Stream.concat(Stream.of(LoanSchedule.class), Stream.of(inner)).forEach(c -> {
            long fields = Stream.of(c.getDeclaredFields()).filter(f -> !Modifier.isStatic(f.getModifiers())).count();
            CHECK.due("few fields in " + c.getSimpleName(), fields <= 20, true);
            for (Method m : c.getDeclaredMethods()) {
                if (!Modifier.isPublic(m.getModifiers())) {
                    CHECK.due("an own name for " + m.getName(), publicNames.contains(m.getName()), false);
                }
                CHECK.due("few parameters of " + m.getName(), m.getParameterCount() <= 7, true);
            }
        });
        for (Class<?> c : inner) {
            int how = c.getModifiers();
            CHECK.due(c.getSimpleName() + " is static", Modifier.isStatic(how), true);
            CHECK.due(c.getSimpleName() + " is inside", Modifier.isPublic(how) || Modifier.isProtected(how), false);
        }
    }

    /** Every call with every choice of edges answers, or throws an exception that its promise names. */
    private static void machineExceptions() {
        int[] edges = {Integer.MIN_VALUE, -1, 0, 1, 2, 5, 6, 20, 120, 121, 3000, 3001, 9999999, 10000000, Integer.MAX_VALUE};
        String[] starts = {"loans;", "loans;open 9999999 3000 120;open 1 0 1;pay 1;open 9 3000 3;repeat 6(skip 2;);",
            "loans;repeat 6(open 9999999 3000 120;);"};
        for (Method m : LoanSchedule.class.getDeclaredMethods()) {
            if (!Modifier.isPublic(m.getModifiers()) || m.getParameterCount() > 3) {
                continue;
            }
            for (String start : starts) {
                LoanSchedule x = null;
                int choices = (int) Math.pow(edges.length, m.getParameterCount());
                for (int c = 0; c < choices; c++) {
                    // nothing is promised of an object after 512 calls
                    x = c % 400 == 0 ? Check.with(start) : x;
                    tryCall(x, m, arguments(m, edges, c));
                }
            }
        }
    }

    private static Object[] arguments(Method m, int[] edges, int choice) {
        Object[] args = new Object[m.getParameterCount()];
        for (int i = 0; i < args.length; i++) {
            args[i] = m.getParameterTypes()[i] == boolean.class ? (Object) (choice % 2 == 0) : (Object) edges[choice % edges.length];
            choice /= edges.length;
        }
        return args;
    }

    private static void tryCall(LoanSchedule x, Method m, Object[] args) {
        try {
            m.invoke(x, args);
        } catch (java.lang.reflect.InvocationTargetException e) {
            boolean named = Set.of(m.getExceptionTypes()).contains(e.getCause().getClass());
            CHECK.due(m.getName() + " throws " + e.getCause(), named, true);
        } catch (IllegalAccessException e) {
            CHECK.due(m.getName() + " can be called", false, true);
        }
    }
}
