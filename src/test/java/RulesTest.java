import java.io.IOException;
import java.nio.file.Files;
import java.nio.file.Path;
import java.util.List;
import java.util.TreeSet;

/** The class keeps to the rules of LANGUAGE.md, as far as a program can tell; and RulesHelp finds what breaks them. */
public final class RulesTest {
  /** A rule, and a member of a class that breaks it. */
  private static final String[][] BROKEN = {
    {"1", "public int more() { return 1; }"},
    {"1", "int seen() { return 1; }"},
    {"1", "protected int shown;"},
    {"1", "private int knock(int a) { return a; }"},
    {"1", "public static final class Shown { }"},
    {"2", "private final class Inner { }"},
    {"2", "private int f() { class Local { } return 1; }"},
    {"2", "private static Runnable f() { return () -> { }; }"},
    {"2", "private static Runnable f() { return Indexkeeper::new; }"},
    {"3", "private java.math.BigInteger big;"},
    {"3", "private String[][] rows;"},
    {"3", "private int[][][] rows;"},
    {"3", "private static void f(Object any) { }"},
    {"3", "private static long f() { var a = new java.util.HashMap<Integer, Integer>(); return 1; }"},
    {"4", "private static double f(double a) { return Math.sqrt(a); }"},
    {"4", "private static int f(int a) { return Math.addExact(a, a); }"},
    {"4", "private static String f(int a) { return String.valueOf(a); }"},
    {"4", "private static int f(String a) { return a.hashCode(); }"},
    {"4", "private static StringBuilder f(StringBuilder a) { return a.append(1L); }"},
    {"4", "private static void f(int[] a) { java.util.Arrays.sort(a); }"},
    {"5", "private static int seen;"},
    {"5", "private static final StringBuilder SIGNS = new StringBuilder();"},
    {"5", "private static final int A; static { A = 1; }"},
    {"6", "private static void f() { throw new IllegalStateException(\"a\" + f2()); } private static int f2() { return 1; }"},
    {"6", "private static void f() { throw new NullPointerException(); }"},
    {"6", "private static void f() { try { g(); } catch (NullPointerException e) { return; } } private static void g() { }"},
    {"6", "private static void f() { try { g(); } catch (RuntimeException e) { return; } } private static void g() { }"},
    {"6", "private static void f() { try { g(); } finally { g(); } } private static void g() { }"},
    {"6", "private Indexkeeper(int a) { throw new IllegalStateException(); }"},
    {"6", "private static void f(int a) { assert a > 0; }"},
    {"6", "private static boolean f(String a, String b) { return a == b; }"},
    {"6", "private synchronized void f() { }"},
    {"6", "private static final class Own extends RuntimeException { }"},
    {"6", "private static final class Own { public String toString() { return null; } }"},
    {"8", "private static int f(int a) { return a < 1 ? 0 : g(a - 1); } private static int g(int a) { return f(a); }"},
    {"9", "private static int f(int a) { while (true) { a++; if (a > 9) { return a; } } }"},
    {"9", "private static int f(int a) { for (;;) { a++; if (a > 9) { return a; } } }"},
    {"10", "private static String f(int a) { return \"a\" + a; }"},
    {"10", "private static String f(String a) { a += 1; return a; }"},
    {"11", "private static int f(int a, int b, int c, int d, int e, int g, int h, int i) { return a; }"},
    {"11", "private static int f(int a) {" + "\na++;".repeat(70) + " return a; }"},
    {"11", "private int f0() { return f1(); }" + depth(9)},
    {"11", classes(13)},
    {"11", fields(25)},
    {"13", "private static long f() { return System.nanoTime(); }"},
  };

  private RulesTest() {
  }

  private static String depth(int most) {
    StringBuilder all = new StringBuilder();
    for (int i = 1; i < most; i++) {
      all.append("private int f").append(i).append("() { return ").append(i + 1 < most ? "f" + (i + 1) + "()" : "1").append("; }");
    }
    return all.toString();
  }

  private static String classes(int n) {
    StringBuilder all = new StringBuilder();
    for (int i = 0; i < n; i++) {
      all.append("private static final class C").append(i).append(" { }");
    }
    return all.toString();
  }

  private static String fields(int n) {
    StringBuilder all = new StringBuilder();
    for (int i = 0; i < n; i++) {
      all.append("private int f").append(i).append(";");
    }
    return all.toString();
  }

  public static void main(String[] args) throws IOException {
    String source = Files.readString(Path.of("src/main/java/Indexkeeper.java"));
    ScriptHelp.due("the class", "what breaks a rule", RulesHelp.faults(source), List.of());
    String start = "public final class Indexkeeper { public Indexkeeper() { } public int knock() { return 1; }\n";
    ScriptHelp.due("a class", "what breaks a rule", RulesHelp.faults(start + "}"), List.of());
    for (String[] broken : BROKEN) {
      TreeSet<String> rules = new TreeSet<>();
      for (String fault : RulesHelp.faults(start + broken[1] + "\n}")) {
        rules.add(fault.substring(0, fault.indexOf(':')));
      }
      ScriptHelp.due("rule " + broken[0], "whether it is broken by " + broken[1], rules.contains("rule " + broken[0]), true);
    }
    ScriptHelp.close("rules");
  }
}
