import java.io.IOException;
import java.nio.file.Files;
import java.nio.file.Path;
import java.util.Set;

/** The rules of ../shared/LANGUAGE.md, rule by rule, in the tree that the compiler makes of the class. */
public final class RulesTest {
    public static void main(String[] arguments) throws IOException {
        String source = Files.readString(Path.of("src/main/java/StringShades.java"));
        Set<String> faults = Rules.faultsOf("StringShades", source);
        Check.holds("outside the rules is " + faults + ": that nothing is", faults.isEmpty());
        for (int rule = 2; rule <= 12; rule++) {
            for (String member : outside(rule)) {
                finds(rule, member);
            }
        }
        for (String member : WITHIN) {
            Set<String> found = Rules.faultsOf("StringShades", classWith(member));
            Check.holds(member + " has " + found + ": that it is within the rules", found.isEmpty());
        }
        Check.end();
    }

    /** A check that finds nothing in a class is worth something only if it finds what there can be. */
    private static void finds(int rule, String member) throws IOException {
        Set<String> found = Rules.faultsOf("StringShades", classWith(member));
        boolean isFound = found.stream().anyMatch(fault -> fault.startsWith(rule + ":"));
        Check.holds("rule " + rule + ": " + member + " has " + found + ": that it is found", isFound);
    }

    private static String classWith(String member) {
        return "public final class StringShades { private int a; private int b; " + member + " }";
    }

    private static final String[] WITHIN = {
        "private int[] row = new int[3]; int f(int i) { return i >= 0 && i < 3 ? row[i] : 0; }",
        "int f() { int sum = 0; for (int i = 0; i < 9; i++) { sum += i; } return sum / 3; }",
        "private static int f(int i) { return i > 0 ? f(i - 1) : 0; }",
        "private static final int ONE = 1; private static final String WORD = \"pull\"; int f() { return ONE; }",
    };

    private static String[] outside(int rule) {
        switch (rule) {
            case 2: return new String[] {"class Inner { }", "void f() { class Local { } }", "enum Kind { ONE }",
                "Object f() { return new Object() { }; }", "Runnable r = () -> { };",
                "Runnable r = this::f; void f() { }"};
            case 3: return new String[] {"Object o;", "Integer i;", "int[][][] rows;",
                "java.util.Map<String, String> m;"};
            case 4: return new String[] {"int f() { return Math.addExact(a, b); }",
                "String f(String s) { return s.trim(); }", "void f() { System.out.println(); }",
                "long f() { return System.nanoTime(); }", "StringBuilder f() { return new StringBuilder(); }",
                "char c = '\u00e9';"};
            case 5: return new String[] {"private static int n = 0;", "private static final int[] ROW = new int[3];",
                "static { }", "private static final int N = Math.abs(3);"};
            case 6: return new String[] {"void f() { throw new RuntimeException(); }",
                "void f() { try { a = 1; } finally { } }", "void f() { synchronized (this) { } }",
                "void f() { assert a > 0; }", "void f() throws Exception { }",
                "boolean f(String s, String t) { return s == t; }", "String f(Object o) { return (String) o; }"};
            case 7: return new String[] {"int f(int[] row, int i) { return row[i]; }",
                "int f(int n) { return 9 / n; }", "int f(int n) { return 9 % n; }", "int f(int n) { return 9 / 0; }",
                "void f(int n) { a /= n; }", "int[] f(int n) { return new int[n]; }",
                "int f(int[] row, int i) { if (a > 0) { return row[i]; } return 0; }",
                "int f(int[] row) { return row[g()]; } int g() { return 0; }",
                "void f(int[] row, int n) { System.arraycopy(row, 0, row, n, 2); }"};
            case 8: return new String[] {"int f(int n) { return n > 0 ? f(n - 1) : 0; }",
                "int f() { return g(); } int g() { return f(); }"};
            case 9: return new String[] {"void f() { for (;;) { a++; } }", "void f() { while (true) { a++; } }",
                "void f(boolean on) { while (on) { a++; } }", "void f() { while (a < 9) { b++; } }",
                "void f() { do { b++; } while (a < 9); }", "void f() { for (int i = 0; i < 9 || a < b; i++) { } }"};
            case 10: return new String[] {"String f(String s) { return s + 1; }",
                "String f(String s) { s += s; return s; }", "int f(String s) { switch (s) { default: return 0; } }"};
            case 11: return new String[] {"void f(int a, int b, int c, int d, int e, int f, int g, int h) { }",
                "void f() {" + "\n a++;".repeat(60) + "\n }", manyFields(), manyClasses(), deepCalls()};
            case 12: return new String[] {"void f() { for (int i = 0; i < 9; i++) { int[] row = new int[3]; } }",
                "private static final class Own { } void f() { while (a < 9) { a++; new Own(); } }"};
            default: return new String[0];
        }
    }

    private static String manyFields() {
        StringBuilder fields = new StringBuilder();
        for (int number = 0; number < 19; number++) {
            fields.append("private int f").append(number).append("; ");
        }
        return fields.toString();
    }

    private static String manyClasses() {
        StringBuilder classes = new StringBuilder();
        for (int number = 0; number < 12; number++) {
            classes.append("private static final class C").append(number).append(" { } ");
        }
        return classes.toString();
    }

    private static String deepCalls() {
        StringBuilder methods = new StringBuilder();
        for (int number = 0; number < 8; number++) {
            methods.append("void f").append(number).append("() { f").append(number + 1).append("(); } ");
        }
        return methods.append("void f8() { }").toString();
    }
}
