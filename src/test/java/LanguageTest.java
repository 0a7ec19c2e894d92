import java.io.IOException;
import java.lang.reflect.Array;
import java.lang.reflect.Field;
import java.lang.reflect.Modifier;
import java.nio.file.Files;
import java.nio.file.Path;
import java.util.ArrayList;
import java.util.IdentityHashMap;
import java.util.List;
import java.util.Map;

/**
 * Whether the program keeps to ../shared/LANGUAGE.md as far as its source can tell, and whether
 * an object of it is small. Samples that break one rule each show that the looking is not blind.
 */
final class LanguageTest {
    private static final Path PROGRAM = Path.of("src", "main", "java", "RampPermits.java");
    private static final int MOST_OBJECTS = 600;
    private static final int MOST_ELEMENTS = 5000;

    /** A rule, and members that break it. */
    private static final String[][] BREAKS = {
        {"1", "int seen;"},
        {"1", "protected int seen() { return 0; }"},
        {"1", "public static final class Open { }"},
        {"1", "final class Inner { }"},
        {"2", "private int f() { class Local { } return 0; }"},
        {"2", "interface Act { int go(); } private final Act act = () -> 1;"},
        {"2", "interface Act { int go(); } private final Act act = RampPermits::one;"
            + " private static int one() { return 1; }"},
        {"2", "private enum Kind { A; final double weight = 1; }"},
        {"3", "private Object any;"},
        {"3", "private String[] words;"},
        {"3", "private String[][] words;"},
        {"3", "private Long boxed;"},
        {"3", "private java.util.List<String> words;"},
        {"3", "private Object f() { return null; }"},
        {"3", "// a sign above 126: \u00e9"},
        {"4", "private long f() { return System.nanoTime(); }"},
        {"4", "private int f(int a) { return Math.addExact(a, 1); }"},
        {"4", "private double f(double a) { return Math.sqrt(a); }"},
        {"4", "private String f(int a) { return String.valueOf(a); }"},
        {"4", "private String f() { return \"a\\0\"; }"},
        {"4", "private enum Kind { A } private int f() { return Kind.A.ordinal(); }"},
        {"5", "private static int count;"},
        {"5", "private static final StringBuilder ALL = new StringBuilder();"},
        {"5", "private static final int[] ROW = new int[3].clone();"},
        {"5", "private static final boolean[] ROW = {true};"},
        {"5", "static { }"},
        {"6", "private void f() { throw new IllegalStateException(); }"},
        {"6", "private int f() { try { return f(); } catch (RuntimeException e) { return 0; } }"},
        {"6", "private boolean f(String a, String b) { return a == b; }"},
        {"6", "public String toString() { return \"\"; }"},
        {"6", "private void f(int a) { assert a > 0; }"},
        {"6", "private void f() { synchronized (this) { } }"},
        {"7", "private int f(int[] row, int i) { return row[i]; }"},
        {"7", "private int f(int a, int b) { return a / b; }"},
        {"7", "private int f(int a, int b) { return a % b; }"},
        {"7", "private int f(int a, int b) { a /= b; return a; }"},
        {"7", "private char f(String a, int i) { return a.charAt(i); }"},
        {"7", "private final int size = 3; private final int[] row = new int[size + f()];"
            + " private int free; private int f() { return 0; } private final int[] other = new int[free];"},
        {"7", "private static class A { } private static class B extends A { }"
            + " private B f(A a) { return (B) a; }"},
        {"8", "private int f(int a) { return a > 0 ? g(a - 1) : 0; } private int g(int a) { return f(a); }"},
        {"9", "private void f() { while (true) { } }"},
        {"9", "private void f() { for (;;) { } }"},
        {"9", "private void f(boolean b, int i) { do { i++; } while (b || i < 9); }"},
        {"10", "private String f(String a) { return a + 1; }"},
        {"10", "private String f(String a) { a += a; return a; }"},
        {"11", "private int f(int a, int b, int c, int d, int e, int g, int h, int i) { return 0; }"},
        {"11", "private int f() {" + "\n".repeat(60) + "return 0; }"},
        {"11", "int a() { return b(); } int b() { return c(); } int c() { return d(); } int d() { return e(); }"
            + " int e() { return f(); } int f() { return g(); } int g() { return h(); } int h() { return i(); }"
            + " int i() { return 0; }"},
        {"11", manyTimes("private static class A# { }", 12)},
        {"11", manyTimes("private int a#;", 21)},
        {"12", "private int[] f() { return new int[3]; }"},
        {"12", "private StringBuilder f() { return new StringBuilder(); }"},
    };

    /** Members that break no rule and stand near one that does. */
    private static final String KEPT = "private static final int[] ROW = {1, 2}; private static final int SIZE = 2;"
        + " private final int[] row = new int[SIZE]; private final int[][] table = new int[SIZE][SIZE];"
        + " private enum Kind { A, B; private static final Kind[] ALL = values(); final String word = \"a\"; }"
        + " private int f(int i) { return i >= 0 && i < SIZE ? row[i] : row[0] / SIZE; }"
        + " private boolean g(String a, String b) { return a.equals(b) && a != null; }"
        + " private int h(int[] all) { int sum = 0; for (int each : all) { sum += each; } return sum; }"
        + manyTimes("private static class A# { }", 10) + manyTimes("private int a#;", 18);

    private final Due due = new Due("LanguageTest");

    public static void main(String[] args) throws IOException {
        LanguageTest test = new LanguageTest();
        test.program();
        test.samples();
        test.room();
        test.due.finish();
    }

    private void program() throws IOException {
        due.part("the program");
        String text = Files.readString(PROGRAM);
        for (String complaint : SourceRules.complaints(SourceTree.of(text))) {
            due.isTrue("what is asked by " + complaint, false);
        }
    }

    private void samples() throws IOException {
        for (String[] each : BREAKS) {
            due.part("a sample that breaks rule " + each[0]);
            boolean found = false;
            for (String complaint : SourceRules.complaints(sample(each[1]))) {
                found |= complaint.matches("(?s)rule " + each[0] + "\\b.*");
            }
            due.isTrue("a complaint about " + each[1], found);
        }
        due.part("a sample that breaks none");
        due.is("complaints " + SourceRules.complaints(sample(KEPT)), SourceRules.complaints(sample(KEPT)).size(), 0);
    }

    private static SourceTree sample(String members) throws IOException {
        return SourceTree.of("public final class RampPermits {\n" + members + "\n}\n");
    }

    private static String manyTimes(String member, int times) {
        StringBuilder all = new StringBuilder();
        for (int i = 0; i < times; i++) {
            all.append(member.replace("#", "" + i)).append('\n');
        }
        return all.toString();
    }

    // ---- the room that an object takes

    private void room() {
        due.part("the room of an object");
        Map<Object, Boolean> seen = new IdentityHashMap<>();
        List<Object> found = new ArrayList<>();
        long elements = 0;
        meet(new RampPermits(), seen, found);
        for (int i = 0; i < found.size(); i++) {
            elements += elementsOf(found.get(i), seen, found);
        }
        due.isTrue(found.size() + " objects are few", found.size() <= MOST_OBJECTS);
        due.isTrue(elements + " fields and elements are few", elements <= MOST_ELEMENTS);
    }

    private static void meet(Object object, Map<Object, Boolean> seen, List<Object> found) {
        if (object != null && seen.put(object, true) == null) {
            found.add(object);
        }
    }

    private static int elementsOf(Object object, Map<Object, Boolean> seen, List<Object> found) {
        if (object.getClass().isArray()) {
            int length = Array.getLength(object);
            for (int i = 0; i < length && !object.getClass().getComponentType().isPrimitive(); i++) {
                meet(Array.get(object, i), seen, found);
            }
            return length;
        }
        int fields = 0;
        for (Field field : object.getClass().getDeclaredFields()) {
            if (!Modifier.isStatic(field.getModifiers())) {
                fields++;
                if (!field.getType().isPrimitive()) {
                    meet(valueOf(field, object), seen, found);
                }
            }
        }
        return fields;
    }

    private static Object valueOf(Field field, Object object) {
        try {
            field.setAccessible(true);
            return field.get(object);
        } catch (IllegalAccessException hidden) {
            throw new IllegalStateException(hidden);
        }
    }
}
