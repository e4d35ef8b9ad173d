import java.io.IOException;
import java.lang.reflect.Constructor;
import java.lang.reflect.Field;
import java.lang.reflect.Method;
import java.lang.reflect.Modifier;
import java.nio.file.Files;
import java.nio.file.Path;
import java.util.Arrays;
import java.util.Set;
import java.util.TreeSet;
import java.util.regex.Matcher;
import java.util.regex.Pattern;

/** The face of the class, and those rules of LANGUAGE.md that can be seen in the text. */
public final class LanguageTests {
    private static final String[] FACE = {
        "int reset(int)", "int addArc(int,int,int,int,int)", "int removeArc()", "int setArc(int,int,int)",
        "int setSupply(int,int,int)", "int setMode(int)", "int arc(int,int)", "int network(int)",
        "int solve(int,int)", "int pivot(int,boolean)", "long objective(boolean)", "long flow(int,boolean)",
        "long reducedCost(int)", "long potential(int)", "int bound(int)", "int tree(int,int)", "int preorder(int)",
        "long limit(boolean,boolean)", "long value(int,int,boolean)", "int problem(int,int)",
        "int breakpoints(int,int)", "long breakpoint(int,int,int,boolean)", "long slope(int,int,int)"};
    private static final String[] CONSTANTS = {"UNKNOWN", "BAD_VALUE", "UNBALANCED", "INFEASIBLE", "NO_SOLUTION",
        "FULL", "NONE", "NO_VALUE"};
    private static final String[] OUT = {"\\bthrow\\b", "\\bthrows\\b", "\\btry\\b", "\\bcatch\\b",
        "\\bsynchronized\\b", "\\bassert\\b", "->", "::", "Exact\\b", "\\bThread\\b",
        "\\bSystem\\.(?!arraycopy)", "\\bRandom\\b", "\\bequals\\b", "\\bhashCode\\b", "\\btoString\\b",
        "\\bpackage\\b", "\\bObject\\b", "@", "\""};
    private static final int LONGEST_METHOD = 60;

    private LanguageTests() {
    }

    public static void main(String[] args) throws IOException {
        face();
        String text = Files.readString(Path.of(args.length > 0 ? args[0] : "src/main/java/ParametricFlow.java"));
        words(text.replaceAll("(?s)/\\*.*?\\*/", "").replaceAll("//[^\n]*", ""));
        methods(text);
        Due.end("LanguageTests");
    }

    private static void face() {
        Class<?> c = ParametricFlow.class;
        Due.holds("public and final", Modifier.isPublic(c.getModifiers()) && Modifier.isFinal(c.getModifiers()));
        Set<String> due = new TreeSet<>(Arrays.asList(FACE));
        Set<String> names = new TreeSet<>();
        for (String signature : FACE) {
            names.add(signature.substring(signature.indexOf(' ') + 1, signature.indexOf('(')));
        }
        Set<String> found = new TreeSet<>();
        for (Method m : c.getDeclaredMethods()) {
            if (Modifier.isPrivate(m.getModifiers())) {
                Due.holds("private " + m.getName() + " has a name of its own", !names.contains(m.getName()));
            } else {
                String parameters = Arrays.toString(m.getParameterTypes()).replaceAll("[\\[\\] ]", "");
                found.add(m.getReturnType() + " " + m.getName() + "(" + parameters + ")");
                Due.holds(m.getName() + " is public", Modifier.isPublic(m.getModifiers()));
            }
        }
        Due.holds("the methods are " + found, found.equals(due));
        Constructor<?>[] constructors = c.getDeclaredConstructors();
        Due.holds("one public constructor", constructors.length == 1
                && Modifier.isPublic(constructors[0].getModifiers()) && constructors[0].getParameterCount() == 0);
        fields(c);
        for (Class<?> inner : c.getDeclaredClasses()) {
            Due.holds(inner + " is static", Modifier.isStatic(inner.getModifiers()));
            Due.holds(inner + " is not public", !Modifier.isPublic(inner.getModifiers())
                    && !Modifier.isProtected(inner.getModifiers()));
            for (Method m : inner.getDeclaredMethods()) {
                Due.holds(inner + "." + m.getName() + " has a name of its own", !names.contains(m.getName()));
            }
        }
        Due.holds("at most 12 classes", c.getDeclaredClasses().length <= 11);
    }

    private static void fields(Class<?> c) {
        Set<String> found = new TreeSet<>();
        int own = 0;
        for (Field f : c.getDeclaredFields()) {
            int m = f.getModifiers();
            if (!Modifier.isPrivate(m)) {
                found.add(f.getName());
                Due.holds(f.getName() + " is a constant", Modifier.isPublic(m) && Modifier.isStatic(m));
            }
            Due.holds(f.getName() + " is final if static", !Modifier.isStatic(m) || Modifier.isFinal(m));
            own += Modifier.isStatic(m) ? 0 : 1;
        }
        Due.holds("the constants are " + found, found.equals(new TreeSet<>(Arrays.asList(CONSTANTS))));
        Due.holds("at most 20 fields", own <= 20);
    }

    private static void words(String code) {
        for (String word : OUT) {
            Due.holds("no " + word, !Pattern.compile(word).matcher(code).find());
        }
        Matcher imports = Pattern.compile("\\bimport ([^;]*);").matcher(code);
        while (imports.find()) {
            Due.holds("import of " + imports.group(1),
                    Set.of("java.util.ArrayList", "java.util.Arrays", "java.util.List").contains(imports.group(1)));
        }
        Due.holds("no while (true)", !code.contains("while (true)") && !code.contains("for (;;)"));
    }

    private static void methods(String text) {
        int start = 0;
        String name = "";
        String[] lines = text.split("\n");
        for (int k = 0; k < lines.length; k++) {
            if (lines[k].matches(" {4,8}[a-zA-Z].*\\) \\{")) {
                start = k;
                name = lines[k].trim();
                Due.holds(name + " takes at most seven", name.split(",").length <= 7);
            } else if (lines[k].matches(" {4,8}\\}")) {
                Due.holds(name + " is short", k - start <= LONGEST_METHOD || !lines[k].startsWith("        }"));
            }
        }
    }
}
