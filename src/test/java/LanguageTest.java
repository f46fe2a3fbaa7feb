import java.io.IOException;
import java.net.URI;
import java.nio.file.Files;
import java.nio.file.Path;
import java.util.List;
import javax.tools.JavaFileObject;
import javax.tools.SimpleJavaFileObject;

/** The program's source keeps to the rules of LANGUAGE.md that a source shows; FaceTest has rule 1, ModelRunsTest and NewObjectTest that no call throws. */
public final class LanguageTest {
    private static final Path PROGRAM = Path.of("src", "main", "java", "DecimalPatterns.java");
    private static final int LAST_CODE = 255;
    private static final Check check = new Check();

    public static void main(String[] args) throws IOException {
        String program = Files.readString(PROGRAM);
        check.same("the rules that the program breaks", SourceRules.brokenIn(new Source(program)).toString(), "[]");
        check.same("rule 3: characters beyond 255", program.chars().filter(c -> c > LAST_CODE).count(), 0);
        soundMembersPass();
        wrongMembersAreFound();
        check.finish();
    }

    private static List<String> brokenBy(String members) throws IOException {
        return SourceRules.brokenIn(new Source("public final class Tried { int f; int[] row; String s; " + members + " }"));
    }

    /** What the rules leave is not held against a program. */
    private static void soundMembersPass() throws IOException {
        String[] sound = {"", "static final int K = 1;", "private static final int[] KS = {1, 2};", "int g(int a) { return a / 2 + a % 3; }",
            "int g(int a) { return a != 0 ? f / a : 0; }", "String g() { StringBuilder b = new StringBuilder(); b.append('x'); return b.toString(); }",
            "int g() { return Math.max(Math.floorMod(f, 3), row.length); }", "private static final class Part { Part next; }",
            "record Pair(int a, int b) { }", "enum Kind { A, B } private static final Kind[] KINDS = Kind.values();", "interface Shape { int area(); }", "boolean g(String t) { return s.equals(t); }",
            "java.util.ArrayList<Integer> list;", "int[][] table;", "int[] g() { return row.clone(); }",
            "int g() { for (int x : row) { f += x; } while (f > 3) { f--; } return f; }"};
        for (String members : sound) {
            check.same(members, brokenBy(members).toString(), "[]");
        }
    }

    /** The walk over the source is tried itself: each of these breaks the rule of that number. */
    private static void wrongMembersAreFound() throws IOException {
        breaks(2, "class Inner { }");
        breaks(2, "void g() { class Local { } }");
        breaks(2, "Object g() { return new Object() { }; }");
        breaks(2, "Runnable g = () -> { };");
        breaks(2, "Runnable g = this::h; void h() { }");
        breaks(3, "Object o;");
        breaks(3, "java.util.Map<Integer, Integer> m;");
        breaks(3, "int[][][] cube;");
        breaks(3, "Long g(Long boxed) { return boxed; }");
        breaks(4, "void g() { System.out.println(); }");
        breaks(4, "long g() { return System.nanoTime(); }");
        breaks(4, "double g() { return Math.random(); }");
        breaks(4, "double g() { return Math.sqrt(2.0); }");
        breaks(4, "int g() { return Math.addExact(f, f); }");
        breaks(4, "int g() { return Integer.MAX_VALUE; }");
        breaks(4, "String g() { return s.trim(); }");
        breaks(4, "int g() { return hashCode(); }");
        breaks(4, "boolean g() { return equals(s); }");
        breaks(4, "int g() { return Integer.parseInt(s); }");
        breaks(5, "static int counter;");
        breaks(5, "static final int[] ROW = new int[3];");
        breaks(5, "static final StringBuilder B = new StringBuilder();");
        breaks(5, "static { }");
        breaks(6, "void g() { throw null; }");
        breaks(6, "void g() { try { f++; } finally { f--; } }");
        breaks(6, "void g() { synchronized (this) { f++; } }");
        breaks(6, "synchronized void g() { }");
        breaks(6, "void g() { assert f > 0; }");
        breaks(6, "void g() throws Exception { }");
        breaks(6, "public String toString() { return s; }");
        breaks(6, "boolean g(String t) { return s == t; }");
        breaks(7, "int g(int a) { return 1 / a; }");
        breaks(7, "int g(int a) { return 1 % a; }");
        breaks(7, "int g(int a) { return Math.floorDiv(1, a); }");
        breaks(9, "void g() { for (;;) { f++; } }");
        breaks(9, "void g() { while (true) { f++; } }");
        breaks(9, "void g() { do { f++; } while (true); }");
        breaks(10, "String g(int a) { return s + a; }");
        breaks(11, "void g(int a, int b, int c, int d, int e, int f, int g, int h) { }");
        breaks(11, "void g() {" + "\n".repeat(60) + "}");
        breaks(11, manyOf("static class N { } ", 12));
        breaks(11, manyOf("int N; ", 18));
        breaks(11, "void c0() { c1(); } void c1() { c2(); } void c2() { c3(); } void c3() { c4(); } void c4() { c5(); } void c5() { c6(); }"
                + " void c6() { c7(); } void c7() { c8(); } void c8() { }");
    }

    private static String manyOf(String member, int many) {
        StringBuilder all = new StringBuilder();
        for (int i = 1; i <= many; i++) {
            all.append(member.replace("N", "n" + i));
        }
        return all.toString();
    }

    private static void breaks(int rule, String members) throws IOException {
        boolean found = brokenBy(members).stream().anyMatch(line -> line.startsWith("rule " + rule + ","));
        check.same("rule " + rule + " is broken by " + members.replace("\n", ""), found, true);
    }

    private static final class Source extends SimpleJavaFileObject {
        private final String code;

        Source(String code) {
            super(URI.create("string:///Program.java"), JavaFileObject.Kind.SOURCE);
            this.code = code;
        }

        @Override
        public boolean isNameCompatible(String simpleName, JavaFileObject.Kind kind) {
            return kind == JavaFileObject.Kind.SOURCE;
        }

        @Override
        public CharSequence getCharContent(boolean ignoreEncodingErrors) {
            return code;
        }
    }
}
