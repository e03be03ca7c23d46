import java.io.IOException;
import java.nio.file.Files;
import java.nio.file.Path;
import java.util.Set;

/** The class keeps the rules of LANGUAGE.md that Form can see, and Form sees what breaks them. */
public final class FormTest {
    private static final Check check = new Check("FormTest");

    public static void main(String[] args) throws IOException {
        check.scene("the class");
        String source = Files.readString(Path.of("src", "main", "java", "PageBanks.java"));
        check.equal("breaches", Form.breaches(source), Set.of());
        check.equal("lines of 100 characters at most",
                source.lines().allMatch(line -> line.length() <= 100), true);
        check.scene("good examples");
        keeps("int x; int f(int[] a) { return Math.max(a.length, x); }");
        keeps("static final int[] ROW = {1, 2}; int f() { return ROW[0]; }");
        keeps("int f() { for (int i = 0; i < 9; i++) { } throw new RuntimeException(); }");
        wrongMembers();
        wrongStatements();
        wrongSizes();
        check.end();
    }

    private static void wrongMembers() {
        check.scene("bad examples of members");
        breaksWhole(1, "package a; public final class PageBanks { }");
        breaksWhole(1, "public class PageBanks { }");
        breaksWhole(1, "public final class PageBanks { } class Other { }");
        breaksWhole(1, "public final class PageBanks { int seen; }");
        breaksWhole(1, "public final class PageBanks { void seen() { } }");
        breaksWhole(1, "public final class PageBanks { protected void seen() { } }");
        breaksWhole(1, "public final class PageBanks { private class Inner { } }");
        breaksWhole(1, "public final class PageBanks { public static class Open { } }");
        breaksWhole(1, "public final class PageBanks { public int a() { return 1; } "
                + "private int a(int b) { return b; } }");
        breaks(3, "Object x;");
        breaks(3, "java.util.HashMap<Integer, Integer> x;");
        breaks(5, "static int x;");
        breaks(5, "static final int[] X = new int[5];");
        breaks(5, "static { }");
        breaks(6, "public String toString() { return null; }");
    }

    private static void wrongStatements() {
        check.scene("bad examples of statements");
        breaks(2, "void f() { g(() -> { }); } void g(Runnable r) { }");
        breaks(2, "void f() { g(this::f); } void g(Runnable r) { }");
        breaks(4, "double f(double x) { return Math.sqrt(x); }");
        breaks(4, "int f(int x) { return Math.addExact(x, x); }");
        breaks(4, "long f() { return System.nanoTime(); }");
        breaks(4, "void f(int[] x) { java.util.Arrays.sort(x); }");
        breaks(4, "int f() { return new java.util.Random().nextInt(); }");
        breaks(6, "Part() { throw new RuntimeException(); }");
        breaks(6, "void f() { throw new Error(); }");
        breaks(6, "void f(int x) { throw new RuntimeException(String.valueOf(x)); }");
        breaks(6, "void f() { RuntimeException e = new RuntimeException(); throw e; }");
        breaks(6, "int f() { try { return 1; } finally { f(); } }");
        breaks(6, "void f() { synchronized (this) { } }");
        breaks(6, "void f(int x) { assert x > 0; }");
        breaks(8, "int f(int x) { return x == 0 ? 0 : f(x - 1); }");
        breaks(8, "void f() { g(); } void g() { f(); }");
        breaks(9, "void f() { for (;;) { } }");
        breaks(9, "void f() { while (true) { } }");
        breaks(9, "void f(int x) { do { x++; } while (x != 3); }");
        breaks(10, "String f(String x) { return x + x; }");
        breaks(10, "void f(String x) { x += x; }");
        breaks(12, "int[] f() { return new int[3]; }");
        breaks(12, "Part f() { return new Part(); }");
        breaks(12, "void f(java.util.List<Integer> x) { for (int y : x) { } }");
    }

    private static void wrongSizes() {
        check.scene("bad examples of sizes");
        keeps("void f(int a, int b, int c, int d, int e, int g, int h) { }");
        breaks(11, "void f(int a, int b, int c, int d, int e, int g, int h, int i) { }");
        keeps("void f() {" + "\n".repeat(59) + "}");
        breaks(11, "void f() {" + "\n".repeat(60) + "}");
        keeps(many("int x%;", 20));
        breaks(11, many("int x%;", 21));
        keeps(many("static class C% { }", 10));
        breaks(11, many("static class C% { }", 11));
        keeps(chain(8));
        breaks(11, chain(9));
    }

    private static String many(String member, int times) {
        StringBuilder all = new StringBuilder();
        for (int i = 0; i < times; i++) {
            all.append(member.replace("%", String.valueOf(i)));
        }
        return all.toString();
    }

    private static String chain(int methods) {
        StringBuilder all = new StringBuilder("void f0() { }");
        for (int i = 1; i < methods; i++) {
            all.append("void f").append(i).append("() { f").append(i - 1).append("(); }");
        }
        return all.toString();
    }

    private static void keeps(String member) {
        check.equal(member, Form.breaches(inPart(member)), Set.of());
    }

    private static void breaks(int rule, String member) {
        breaksWhole(rule, inPart(member));
    }

    private static void breaksWhole(int rule, String source) {
        Set<String> found = Form.breaches(source);
        boolean isSeen = found.stream().anyMatch(breach -> breach.startsWith("rule " + rule + ":"));
        check.equal("rule " + rule + " in " + source + " (found: " + found + ")", isSeen, true);
    }

    private static String inPart(String member) {
        return "public final class PageBanks { private static final class Part { " + member + " } }";
    }
}
