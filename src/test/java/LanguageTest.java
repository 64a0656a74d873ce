import java.io.IOException;
import java.nio.file.Files;
import java.nio.file.Path;
import java.util.List;

/** The class keeps to LANGUAGE.md, rule by rule; and each rule's fault is found where a source has it. */
public final class LanguageTest {
    private static final Path SOURCE = Path.of("src/main/java/RoofDrains.java");
    private static final Checks checks = new Checks();

    public static void main(String[] args) throws IOException {
        Language language = new Language(Files.readString(SOURCE));
        checks.due("faults of " + SOURCE, language::faults, List.of());
        fine("private int x() { int s = 0; for (int n = 0; n < 3; n++) { s += n / 2; } return s; }");
        rulesOfFormAndTypes();
        rulesOfExceptions();
        rulesOfEnds();
        rulesOfSize();
        checks.end("LanguageTest");
    }

    private static Language read(String members) throws IOException {
        return new Language("public final class RoofDrains {\n" + members + "\n}\n");
    }

    private static void fine(String members) throws IOException {
        Language language = read(members);
        checks.due("faults of " + members, language::faults, List.of());
    }

    /** Has the fault of this rule, and maybe of others. */
    private static void breaks(int rule, String members) throws IOException {
        Language language = read(members);
        checks.due("rule " + rule + " is broken by " + members,
            () -> language.faults().stream().anyMatch(fault -> fault.startsWith("rule " + rule + ": ")), true);
    }

    private static void rulesOfFormAndTypes() throws IOException {
        breaks(1, "private class Inner { }");
        breaks(1, "public static class Open { }");
        breaks(2, "private Runnable x() { return () -> { }; }");
        breaks(2, "private Runnable x() { return this::x; }");
        breaks(2, "private int x(int n) { return switch (n) { case 1 -> 2; default -> 3; }; }");
        breaks(3, "private Object o;");
        breaks(3, "private java.util.Map<Integer, Integer> x() { return null; }");
        breaks(3, "private double x(double a) { return a % 2.0; }");
        breaks(4, "private double x() { return Math.sqrt(2.0); }");
        breaks(4, "private int x(int a) { return Math.addExact(a, 1); }");
        breaks(4, "private long x() { return System.nanoTime(); }");
        breaks(4, "private int x() { return new java.util.Random().nextInt(); }");
        breaks(4, "private long x(double a) { return Double.doubleToLongBits(a); }");
        breaks(4, "private char x() { return '" + (char) 233 + "'; }");
        breaks(5, "private static int x;");
        breaks(5, "private static final double X = 1.0;");
        breaks(5, "private static final int[] X = new int[3];");
        breaks(5, "private static final int[] X = {1}; private void x() { X[0] = 2; }");
        breaks(5, "private static final int[] X = {1}; private void x() { X[0]++; }");
        breaks(5, "static { }");
        breaks(10, "private int x(String a) { return (a + \"b\").length(); }");
        breaks(10, "private boolean x(String a, String b) { return a == b; }");
    }

    private static void rulesOfExceptions() throws IOException {
        breaks(2, "private void x() { try { y(); } catch (IllegalStateException e) { } } private void y() { }");
        breaks(2, "private void x() { assert true; }");
        breaks(2, "private synchronized void x() { synchronized (this) { } }");
        breaks(4, "private void x() { throw new Error(); }");
        breaks(6, "private void x(String a) { throw new IllegalStateException(a); }");
        breaks(6, "private void x(RuntimeException e) { throw e; }");
        breaks(6, "public RoofDrains() { throw new IllegalStateException(); }");
        breaks(6, "private static final class Own extends RuntimeException { }");
        breaks(6, "public String toString() { return null; }");
        breaks(7, "private int x(int a) { return 1 / a; }");
        breaks(7, "private int x(int a) { return 1 % (a + 1); }");
        breaks(7, "private int x(int a) { a /= a; return a; }");
        breaks(7, "private int[] x(int a) { return new int[a]; }");
        breaks(7, "private RoofDrains x(Object a) { return (RoofDrains) a; }");
    }

    private static void rulesOfEnds() throws IOException {
        breaks(8, "private int x(int a) { return x(a - 1); }");
        breaks(8, "private int x(int a) { return y(a - 1); } private int y(int a) { return x(a); }");
        breaks(9, "private void x() { for (;;) { } }");
        breaks(9, "private void x(boolean a) { while (a) { } }");
        breaks(9, "private void x(boolean a) { do { } while (a); }");
        breaks(12, "private void x() { for (int n = 0; n < 3; n++) { int[] a = new int[4]; } }");
        breaks(12, "private void x() { int n = 0; while (n < 3) { n++; RoofDrains a = new RoofDrains(); } }");
    }

    private static void rulesOfSize() throws IOException {
        breaks(11, "private void x(int a, int b, int c, int d, int e, int f, int g, int h) { }");
        breaks(11, "private void x() {" + "\n".repeat(60) + "}");
        fine("private int a, b, c, d, e, f, g, h, i, j, k, l, m, n, o, p, q, r, s, t;");
        breaks(11, "private int a, b, c, d, e, f, g, h, i, j, k, l, m, n, o, p, q, r, s, t, u;");
        StringBuilder inside = new StringBuilder();
        for (int n = 0; n < 12; n++) {
            inside.append("private static final class C").append(n).append(" { }\n");
        }
        breaks(11, inside.toString());
        StringBuilder chain = new StringBuilder("private int m8(int a) { return a; }\n");
        for (int n = 7; n >= 1; n--) {
            chain.append("private int m" + n + "(int a) { return m" + (n + 1) + "(a); }\n");
        }
        fine(chain.toString());
        breaks(11, chain + "private int m0(int a) { return m1(a); }");
    }
}
