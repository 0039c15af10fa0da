import java.io.IOException;
import java.lang.management.ManagementFactory;
import java.lang.reflect.Array;
import java.lang.reflect.Constructor;
import java.lang.reflect.Field;
import java.lang.reflect.Method;
import java.lang.reflect.Modifier;
import java.nio.file.Files;
import java.nio.file.Path;
import java.util.ArrayDeque;
import java.util.Arrays;
import java.util.Collections;
import java.util.Deque;
import java.util.HashSet;
import java.util.IdentityHashMap;
import java.util.List;
import java.util.Set;
import java.util.TreeSet;
import java.util.regex.Matcher;
import java.util.regex.Pattern;
import java.util.stream.Stream;

/** The class has the document's face and no more, and keeps to what LANGUAGE.md says of its text. */
public final class FaceTest {
    private static final Due due = new Due("FaceTest");
    private static final Path SOURCE = Path.of("src/main/java/TapeBench.java");
    private static final List<String> FACE = List.of(
        "int pass(int, int)", "int put(int, int, int)", "int lose(int, int, int)", "int sample(int, int)",
        "int about(int, int)", "int turn(int, int)", "int sheet(int, int, int)", "int write(int, int, int)",
        "int copy(int, int, int, int, int)", "int lay(int, int)", "int layer(int, int, int)",
        "int turnOn(int, boolean)", "int move(int, int)", "int drop(int)", "int told(int, int)",
        "int as(int, int)", "int size(int)", "int out(int, int)", "int heard(int, int)", "long power(int)",
        "int bake(int, int)", "int align(int, int, int)", "int differ(int, int, int, boolean)",
        "int seam(int, int, int, int)", "int join(int, int, int, int)", "int mark(int, int, int)",
        "int moment(int)", "int undo()", "int count(int)");

    public static void main(String[] args) throws IOException, IllegalAccessException {
        face();
        classesInside();
        words();
        imports();
        shortMethods();
        room();
        madeByCalls();
        due.end();
    }

    private static String told(Method method) {
        StringBuilder text = new StringBuilder();
        for (Class<?> type : method.getParameterTypes()) {
            text.append(text.length() == 0 ? "" : ", ").append(type.getSimpleName());
        }
        return method.getReturnType().getSimpleName() + " " + method.getName() + "(" + text + ")";
    }

    private static void face() {
        due.part("rule 1");
        due.holds("public and final", TapeBench.class.getModifiers() == (Modifier.PUBLIC | Modifier.FINAL));
        Set<String> open = new TreeSet<>();
        for (Method method : TapeBench.class.getDeclaredMethods()) {
            if (Modifier.isPublic(method.getModifiers())) {
                due.holds(method + " is no static one", !Modifier.isStatic(method.getModifiers()));
                open.add(told(method));
            } else {
                due.holds(method + " is private", Modifier.isPrivate(method.getModifiers()));
            }
        }
        due.holds("the public methods are " + FACE + ", not " + open, open.equals(new TreeSet<>(FACE)));
        Constructor<?>[] constructors = TapeBench.class.getDeclaredConstructors();
        due.is("constructors", constructors.length, 1);
        due.holds("it is public and takes nothing", Modifier.isPublic(constructors[0].getModifiers())
            && constructors[0].getParameterCount() == 0);
        for (Field field : TapeBench.class.getDeclaredFields()) {
            due.holds(field + " is private", Modifier.isPrivate(field.getModifiers()));
            boolean isStatic = Modifier.isStatic(field.getModifiers());
            due.holds(field + ", if static, is final", !isStatic || Modifier.isFinal(field.getModifiers()));
        }
    }

    private static void classesInside() {
        due.part("rules 1, 2, 11");
        Set<String> names = new HashSet<>();
        FACE.forEach(text -> names.add(text.substring(text.indexOf(' ') + 1, text.indexOf('('))));
        Class<?>[] inside = TapeBench.class.getDeclaredClasses();
        due.holds("at most twelve classes", inside.length < 12);
        for (Class<?> one : inside) {
            due.holds(one + " is static", Modifier.isStatic(one.getModifiers()));
            due.holds(one + " is not open", !Modifier.isPublic(one.getModifiers()) && !Modifier.isProtected(one.getModifiers()));
            due.holds(one + " has no class inside", one.getDeclaredClasses().length == 0);
            for (Method method : one.getDeclaredMethods()) {
                due.holds(method + " has a name of its own", !names.contains(method.getName()));
                due.holds(method + " takes at most seven", method.getParameterCount() <= 7);
            }
            long fields = Arrays.stream(one.getDeclaredFields()).filter(f -> !Modifier.isStatic(f.getModifiers())).count();
            due.holds(one + " has at most twenty fields", fields <= 20);
        }
    }

    /** The program's text without what its comments say. */
    private static String code() throws IOException {
        return Files.readString(SOURCE).replaceAll("(?s)/\\*.*?\\*/", " ").replaceAll("//[^\n]*", " ");
    }

    private static void words() throws IOException {
        due.part("rules 2 to 6, 13");
        String code = code();
        String[] forbidden = {"throw", "throws", "try", "catch", "finally", "synchronized", "assert", "native",
            "volatile", "double", "float", "import\\s+static", "System\\.(?!arraycopy)", "Thread", "Random", "Object",
            "hashCode", "toString", "equals", "Math\\.\\w+Exact", "Math\\.random", "package", "var"};
        for (String word : forbidden) {
            due.holds("there is no " + word, !Pattern.compile("\\b" + word + (word.endsWith(")") ? "" : "\\b")).matcher(code).find());
        }
        due.holds("there is no lambda", !code.contains("->"));
        due.holds("there is no method reference", !code.contains("::"));
        due.holds("there is no text", !code.contains("\""));
        due.holds("all signs are plain", code.chars().allMatch(c -> c < 128));
    }

    private static void imports() throws IOException {
        due.part("rule 4");
        Matcher matcher = Pattern.compile("import\\s+([\\w.*]+);").matcher(code());
        while (matcher.find()) {
            due.holds(matcher.group(1) + " may be used", matcher.group(1).equals("java.util.Arrays"));
        }
        Matcher calls = Pattern.compile("\\b(Math|Arrays|System)\\.(\\w+)").matcher(code());
        List<String> fine = List.of("Math.max", "Math.min", "Math.abs", "Math.floorDiv", "Arrays.fill", "System.arraycopy");
        while (calls.find()) {
            due.holds(calls.group() + " may be called", fine.contains(calls.group()));
        }
    }

    /** A method's head and its last brace stand equally far from the left, and nothing between does. */
    private static void shortMethods() throws IOException {
        due.part("rule 11");
        Matcher method = Pattern.compile("(?ms)^( {4}| {8})(?! )[^\n]*\\) \\{\n(.*?)^\\1\\}$")
            .matcher(code());
        int methods = 0;
        while (method.find()) {
            methods++;
            long lines = method.group(2).lines().count() + 2;
            due.holds(method.group().lines().findFirst().orElse("").strip() + " has at most sixty lines", lines <= 60);
        }
        long written = Stream.concat(Stream.of(TapeBench.class), Arrays.stream(TapeBench.class.getDeclaredClasses()))
            .mapToLong(one -> one.getDeclaredMethods().length).sum();
        due.holds("all of " + written + " methods were looked at, not " + methods, methods >= written);
    }

    private static void room() throws IllegalAccessException {
        due.part("room");
        long objects = 0;
        long parts = 0;
        Set<Object> seen = Collections.newSetFromMap(new IdentityHashMap<>());
        Deque<Object> open = new ArrayDeque<>();
        open.add(new TapeBench());
        while (!open.isEmpty()) {
            Object one = open.poll();
            if (!seen.add(one)) {
                continue;
            }
            objects++;
            if (one.getClass().isArray()) {
                parts += Array.getLength(one);
                for (int i = 0; i < Array.getLength(one) && one instanceof Object[]; i++) {
                    if (Array.get(one, i) != null) {
                        open.add(Array.get(one, i));
                    }
                }
                continue;
            }
            for (Field field : one.getClass().getDeclaredFields()) {
                if (!Modifier.isStatic(field.getModifiers())) {
                    parts++;
                    field.setAccessible(true);
                    if (!field.getType().isPrimitive() && field.get(one) != null) {
                        open.add(field.get(one));
                    }
                }
            }
        }
        System.out.println("a new object: " + objects + " objects and arrays, " + parts + " fields and elements");
        // Even a run of 512 calls that all made a new object would have room enough.
        due.holds("a new object is made of few objects", objects * 512 < 600000);
        due.holds("a new object is made of few fields and elements", parts * 512 < 7300000);
    }

    /** Only layers are made by calls: all the rows are made once, with the object. */
    private static void madeByCalls() {
        due.part("room of calls");
        manyCalls(new TapeBench());
        TapeBench bench = new TapeBench();
        com.sun.management.ThreadMXBean threads = (com.sun.management.ThreadMXBean) ManagementFactory.getThreadMXBean();
        long id = Thread.currentThread().getId();
        threads.getThreadAllocatedBytes(id);
        long before = threads.getThreadAllocatedBytes(id);
        manyCalls(bench);
        long made = threads.getThreadAllocatedBytes(id) - before;
        due.holds("512 calls make little (" + made + " bytes)", made < 30000);
    }

    private static void manyCalls(TapeBench x) {
        x.pass(0, 120);
        for (int i = 0; i < 120; i++) {
            x.put(0, i, i % 2 == 0 ? -100 : 100);
        }
        x.lose(0, 60, 3);
        x.join(0, 0, 0, 1);
        for (int kind = 0; kind < 7; kind++) {
            x.layer(kind, 1, 1);
        }
        x.mark(0, 0, 50);
        for (int k = 0; k < 38; k++) {
            x.out(0, k);
            x.heard(0, k % 3);
            x.power(0);
            x.bake(0, 2);
            x.moment(0);
            x.align(0, 1, 9);
            x.turnOn(k % 7, false);
            x.move(0, 6);
            x.turn(0, k);
            x.undo();
        }
    }
}
