import com.sun.management.ThreadMXBean;
import java.io.IOException;
import java.lang.management.ManagementFactory;
import java.lang.reflect.Constructor;
import java.lang.reflect.Field;
import java.lang.reflect.Method;
import java.lang.reflect.Modifier;
import java.nio.file.Files;
import java.nio.file.Path;
import java.util.ArrayList;
import java.util.Arrays;
import java.util.List;
import java.util.Set;
import java.util.TreeSet;
import java.util.regex.Matcher;
import java.util.regex.Pattern;

/** The public face, what can be told of LANGUAGE.md by looking at the class, and the room that calls take. */
public final class FaceTests {
    private static final Path SOURCE = Path.of("src/main/java/CandidateRanges.java");
    private static final Set<String> FACE = new TreeSet<>(List.of(
        "int NONE", "int BAD", "int FULL", "int LARGE", "CandidateRanges()",
        "int shelf(int, int, int)", "int item(int, int, long)", "int box(int, int)",
        "int filter(int, int, int, long)", "int ask(int, long)", "int asked(int)",
        "int span(long, long, long)", "int list()", "int add(int, long)",
        "int source(int, int, int, int, int, long)", "int range(int)", "long size()",
        "long at(long)", "long place(long)", "long draw(long)", "int barred()", "int bar(int, int)",
        "long barredAt(int)", "long distance(long, long)", "int told(int)"));
    private static final Set<String> THROWING = Set.of("at", "draw", "barredAt");
    private static final Set<String> LIBRARY = Set.of("java.util.Arrays", "java.util.ArrayList", "java.util.List");

    private static final Set<String> LISTED = Set.of("Math.max", "Math.min", "Math.abs",
        "Math.floorDiv", "Math.floorMod", "Long.compare", "Integer.compare", "Long.bitCount", "Integer.bitCount",
        "Arrays.fill", "Arrays.copyOf", "Arrays.copyOfRange", "System.arraycopy", "List.of");

    private static int wrong = 0;

    private static void check(boolean right, String what) {
        if (!right) {
            wrong++;
            System.out.println("wrong: " + what);
        }
    }

    private static String typesOf(Class<?>[] types) {
        List<String> names = new ArrayList<>();
        for (Class<?> type : types) {
            names.add(type.getSimpleName());
        }
        return "(" + String.join(", ", names) + ")";
    }

    private static void checkFace() {
        Class<?> face = CandidateRanges.class;
        Set<String> found = new TreeSet<>();
        for (Field field : face.getDeclaredFields()) {
            if (!Modifier.isPrivate(field.getModifiers())) {
                found.add(field.getType().getSimpleName() + " " + field.getName());
            }
        }
        for (Constructor<?> constructor : face.getDeclaredConstructors()) {
            found.add(face.getSimpleName() + typesOf(constructor.getParameterTypes()));
        }
        for (Method method : face.getDeclaredMethods()) {
            if (!Modifier.isPrivate(method.getModifiers())) {
                found.add(method.getReturnType().getSimpleName() + " " + method.getName() + typesOf(method.getParameterTypes()));
                Class<?>[] due = THROWING.contains(method.getName()) ? new Class<?>[] {IndexOutOfBoundsException.class} : new Class<?>[0];
                check(Arrays.equals(due, method.getExceptionTypes()), "what " + method.getName() + " says that it throws");
            }
        }
        check(found.equals(FACE), "the face is " + found + ", due is " + FACE);
        check(Modifier.isFinal(face.getModifiers()) && Modifier.isPublic(face.getModifiers()), "public and final");
    }

    private static void checkClassesInside() {
        Class<?>[] inside = CandidateRanges.class.getDeclaredClasses();
        check(inside.length <= 12, inside.length + " classes inside");
        for (Class<?> one : inside) {
            check(Modifier.isStatic(one.getModifiers()), one + " is static");
            check(one.getDeclaredFields().length - constantsOf(one) <= 20, one + " has few fields");
            for (Field field : one.getDeclaredFields()) {
                boolean fine = !Modifier.isStatic(field.getModifiers()) || Modifier.isFinal(field.getModifiers());
                check(fine, field + " is final");
            }
        }
    }

    private static int constantsOf(Class<?> one) {
        int constants = 0;
        for (Field field : one.getDeclaredFields()) {
            constants += Modifier.isStatic(field.getModifiers()) ? 1 : 0;
        }
        return constants;
    }

    private static void checkText() throws IOException {
        String text = Files.readString(SOURCE);
        String code = text.replaceAll("(?s)/\\*.*?\\*/", " ").replaceAll("//[^\n]*", " ").replaceAll("\"[^\"]*\"", "\"\"");
        for (String line : code.split("\n")) {
            if (line.startsWith("import ")) {
                check(LIBRARY.contains(line.substring(7, line.indexOf(';'))), line);
            }
        }
        checkLibrary(code);
        for (String word : new String[] {"try", "catch", "finally", "synchronized", "assert", "package", "protected"}) {
            check(!code.matches("(?s).*\\b" + word + "\\b.*"), "the word " + word);
        }
        for (String sign : new String[] {"->", "::", "Exact("}) {
            check(!code.contains(sign), "the sign " + sign);
        }
    }

    /** Rule 4 names the functions of numbers "and their like": here only those that it names are taken. */
    private static void checkLibrary(String code) {
        Matcher uses = Pattern.compile("\\b([A-Z][A-Za-z]*)\\s*\\.\\s*([A-Za-z]\\w*)").matcher(code.replaceAll("(?m)^import .*$", ""));
        Set<String> own = new TreeSet<>(List.of("CandidateRanges"));
        for (Class<?> inside : CandidateRanges.class.getDeclaredClasses()) {
            own.add(inside.getSimpleName());
        }
        while (uses.find()) {
            String use = uses.group(1) + "." + uses.group(2);
            check(own.contains(uses.group(1)) || LISTED.contains(use), use + " is not on the list of rule 4");
        }
    }

    /** Sixteen PASSes of 200 under four levels of JOIN, each number asked by filters that ask 32 more. */
    private static int dearestSource(CandidateRanges x) {
        int f = x.filter(0, 0, 0, Long.MIN_VALUE);
        for (int level = 2; level <= 6; level++) {
            f = x.filter(9, f, f, 0);
        }
        int s = x.source(7, x.span(1, 200, 1), 0, f, 0, 0);
        for (int level = 3; level <= 6; level++) {
            s = x.source(2, s, s, 0, 0, 0);
        }
        return s;
    }

    private static long bytesOfCalls(ThreadMXBean bean, CandidateRanges x, int s, int calls) {
        long before = bean.getThreadAllocatedBytes(Thread.currentThread().getId());
        for (int i = 0; i < calls; i++) {
            x.range(s);
            x.ask(i % 7, i);
        }
        return bean.getThreadAllocatedBytes(Thread.currentThread().getId()) - before;
    }

    private static void checkRoom() {
        ThreadMXBean bean = (ThreadMXBean) ManagementFactory.getThreadMXBean();
        if (!bean.isThreadAllocatedMemorySupported()) {
            System.out.println("FaceTests: this machine does not tell what is allocated");
            return;
        }
        CandidateRanges x = new CandidateRanges();
        x.filter(1, 0, 0, 0);
        int s = dearestSource(x);
        int failing = x.source(7, x.span(1, 30, 1), 0, 0, 0, 0);
        check(x.range(s) == 1, "the dearest range is reckoned");
        check(x.range(failing) == -18, "the failing range is WILD");
        bytesOfCalls(bean, x, s, 1);
        long bytes = bytesOfCalls(bean, x, s, 80) + bytesOfCalls(bean, x, failing, 80);
        check(bytes < 4096, "320 calls of range() and ask() took " + bytes + " bytes");
    }

    public static void main(String[] args) throws IOException {
        checkFace();
        checkClassesInside();
        checkText();
        checkRoom();
        System.out.println("FaceTests: " + wrong + " wrong");
        if (wrong != 0) {
            System.exit(1);
        }
    }
}
