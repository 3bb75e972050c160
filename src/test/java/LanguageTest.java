import java.nio.file.Files;
import java.nio.file.Path;
import java.util.List;

/** The class keeps to ../shared/LANGUAGE.md, as far as its text can tell, and what breaks a rule would be found. */
public final class LanguageTest {
    private static final Checks check = new Checks();
    private static String program;

    public static void main(String[] args) throws Exception {
        program = Files.readString(Path.of("src/main/java/Globewright.java"));
        for (String fault : LanguageRules.faultsOf(program)) {
            check.holds(false, fault);
        }
        check.holds(LanguageRules.faultsOf(withMember("")).isEmpty(), "a blank member is a fault");
        faces();
        types();
        library();
        fields();
        exceptions();
        loopsAndCalls();
        sizes();
        check.end();
    }

    /** The class with this ahead of its last brace. */
    private static String withMember(String member) {
        return program.substring(0, program.lastIndexOf('}')) + member + "}\n";
    }

    private static void finds(int rule, String member) {
        findsIn(rule, withMember(member), member);
    }

    private static void findsIn(int rule, String text, String change) {
        List<String> faults = LanguageRules.faultsOf(text);
        boolean isFound = faults.stream().anyMatch(fault -> fault.startsWith("rule " + rule + ",")
                || fault.startsWith("rule " + rule + ":"));
        check.holds(isFound, "no fault of rule " + rule + " in: " + change + ", but " + faults);
    }

    private static void faces() {
        findsIn(1, "package globes;\n" + program, "a package line");
        findsIn(1, program + "class Beside { }\n", "a class beside");
        findsIn(1, program.replace("public final class Globewright", "public class Globewright"), "not final");
        finds(1, "int seen;");
        finds(1, "protected void seen() { }");
        finds(1, "static void seen() { }");
        finds(1, "private int money(int more) { return more; }");
        finds(1, "private static final class Inside { void print() { } }");
        finds(1, "public static final class Inside { }");
        finds(1, "private final class Inside { }");
        finds(2, "private static int local() { class Inside { } return 0; }");
        finds(2, "private static int local() { return new Iterable() { int end; }.end; } interface Iterable { }");
        finds(2, "private static void run() { Runnable run = () -> { }; }");
        finds(2, "private static void run() { java.util.function.IntUnaryOperator sine = Globewright::sineOf; }");
    }

    private static void types() {
        finds(3, "private java.util.HashMap<Integer, Integer> map;");
        finds(3, "private Object thing;");
        finds(3, "private Star[][] stars2;");
        finds(3, "private int[][][] cube;");
        finds(3, "private boolean[][] flags;");
        finds(3, "private ArrayList<String> texts;");
        finds(3, "private static long[][][] cube() { return null; }");
        finds(3, "private static double rest(double a) { return a % 2.0; }");
        finds(3, "private static double rest(double a) { a %= 2.0; return a; }");
        finds(10, "private static String joined(String a) { return a + 1; }");
        finds(10, "private static String joined(String a) { a += 1; return a; }");
    }

    private static void library() {
        finds(4, "private static double root(double a) { return Math.sqrt(a); }");
        finds(4, "private static double larger(double a) { return Math.max(a, 1.0); }");
        finds(4, "private static int sum(int a) { return Math.addExact(a, 1); }");
        finds(4, "private static long bits(double a) { return Double.doubleToLongBits(a); }");
        finds(4, "private static String upper(String a) { return a.toUpperCase(); }");
        finds(4, "private static long clock() { return System.nanoTime(); }");
        finds(4, "private static void out() { System.out.println(1); }");
        finds(4, "private static int of(Star star) { return star.hashCode(); }");
        finds(4, "private static int any() { return new java.util.Random().nextInt(); }");
        finds(4, "private static void sort(ArrayList<Star> all) { all.sort(null); }");
        finds(4, "private static final String SIGN = \"\u00e9\";");
        finds(4, "private static final char SIGN = '\u00e9';");
        findsIn(4, program.replace("import java.util.ArrayList;", "import java.util.ArrayList;\nimport java.util.Random;"),
                "an import");
    }

    private static void fields() {
        finds(5, "private static int count;");
        finds(5, "private static final ArrayList<Star> ALL = new ArrayList<Star>();");
        finds(5, "private static final int[] ROW = new int[5];");
        finds(5, "private static final double HALF = 0.5;");
        finds(5, "private static final int LATER; static { LATER = 1; }");
        finds(5, "private static void spoil() { SINES[0] = 1; }");
        finds(5, "private static void spoil() { SINES[0] += 1; }");
    }

    private static void exceptions() {
        finds(6, "private static final class Own extends RuntimeException { private static final long serialVersionUID = 1; }");
        finds(6, "private static void fail() { throw new ClassCastException(); }");
        finds(6, "private static void fail(RuntimeException e) { throw e; }");
        finds(6, "private static void fail(String text) { throw new IllegalStateException(text); }");
        finds(6, "private static final class Failing { Failing() { throw new IllegalStateException(); } }");
        finds(6, "private static void caught() { try { requireRoom(false); } catch (IllegalStateException e) { return; } }");
        finds(6, "private static void end() { try { requireRoom(true); } finally { requireRoom(true); } }");
        finds(6, "private static void sure(int a) { assert a > 0; }");
        finds(6, "private synchronized void alone() { }");
        finds(6, "private void alone() { synchronized (this) { now++; } }");
        finds(6, "private static final class Same { public int hashCode() { return 1; } }");
        finds(6, "private static boolean same(String a, String b) { return a == b; }");
        finds(6, "private static boolean same(Integer a, Integer b) { return a != b; }");
        finds(6, "private static Star cast(Object star) { return (Star) star; }");
        finds(7, "private static int share(int a, int b) { return a / b; }");
        finds(7, "private static int rest(int a, int b) { return a % (b + 1); }");
        finds(7, "private static double share(double a, double b) { return a / b; }");
        finds(7, "private static int none(int a) { return a / EAST; }");
    }

    private static void loopsAndCalls() {
        finds(8, "private static int down(int a) { return a > 0 ? down(a - 1) : 0; }");
        finds(8, "private static int one(int a) { return other(a); } private static int other(int a) { return one(a); }");
        finds(9, "private static void turn() { for (;;) { requireRoom(false); } }");
        finds(9, "private static void turn() { while (true) { requireRoom(false); } }");
        finds(9, "private static void turn() { do { requireRoom(false); } while (true); }");
        finds(12, "private int all() { int sum = 0; for (Star star : stars) { sum += star.epoch; } return sum; }");
        finds(12, "private static final class Early { Early() { later(); } void later() { } }");
        finds(12, "private static final class Early { Early(ArrayList<Early> all) { all.add(this); } }");
    }

    private static void sizes() {
        finds(11, "private static int eight(int a, int b, int c, int d, int e, int f, int g, int h) { return a; }");
        finds(11, "private static int longOne(int a) {\n" + "a++;\n".repeat(60) + "return a; }");
        finds(11, "private static final class Wide { " + fieldsNamed(21) + " }");
        finds(11, "private static final class One { } private static final class Two { }");
        StringBuilder chain = new StringBuilder("private static int step9(int a) { return a; }");
        for (int i = 0; i < 9; i++) {
            chain.append("private static int step" + i + "(int a) { return step" + (i + 1) + "(a); }");
        }
        finds(11, chain.toString());
    }

    private static String fieldsNamed(int count) {
        StringBuilder fields = new StringBuilder();
        for (int i = 0; i < count; i++) {
            fields.append("int field" + i + ";");
        }
        return fields.toString();
    }
}
