import java.lang.reflect.Constructor;
import java.lang.reflect.Field;
import java.lang.reflect.Method;
import java.lang.reflect.Modifier;
import java.util.Arrays;
import java.util.Set;
import java.util.TreeSet;

/** The public face of the class, and what rule 1 of LANGUAGE.md says of it. */
public final class FaceTests {
    private static final String[] FACE = {
        "int reset(int)", "int addArc(int,int,int,int,int)", "int removeArc()", "int setArc(int,int,int)",
        "int setSupply(int,int,int)", "int setMode(int)", "int arc(int,int)", "int network(int)",
        "int solve(int,int)", "int pivot(int,boolean)", "long objective(boolean)", "long flow(int,boolean)",
        "long reducedCost(int)", "long potential(int)", "int bound(int)", "int tree(int,int)", "int preorder(int)",
        "long limit(boolean,boolean)", "long value(int,int,boolean)", "int problem(int,int)",
        "int breakpoints(int,int)", "long breakpoint(int,int,int,boolean)", "long slope(int,int,int)"};
    private static final String[] CONSTANTS = {"int UNKNOWN", "int BAD_VALUE", "int UNBALANCED", "int INFEASIBLE",
        "int NO_SOLUTION", "int FULL", "int NONE", "long NO_VALUE"};

    private FaceTests() {
    }

    public static void main(String[] args) {
        Class<?> c = ParametricFlow.class;
        Due.holds("public and final", Modifier.isPublic(c.getModifiers()) && Modifier.isFinal(c.getModifiers()));
        methods(c);
        constructor(c);
        fields(c);
        classesInside(c);
        Due.end("FaceTests");
    }

    private static void methods(Class<?> c) {
        Set<String> found = new TreeSet<>();
        for (Method m : c.getDeclaredMethods()) {
            if (Modifier.isPrivate(m.getModifiers())) {
                Due.holds("private " + m.getName() + " has a name of its own", !names().contains(m.getName()));
            } else {
                String parameters = Arrays.toString(m.getParameterTypes()).replaceAll("[\\[\\] ]", "");
                found.add(m.getReturnType() + " " + m.getName() + "(" + parameters + ")");
                Due.is(m.getName() + " is public and nothing else", m.getModifiers(), Modifier.PUBLIC);
            }
        }
        Due.holds("the methods are " + found, found.equals(new TreeSet<>(Arrays.asList(FACE))));
    }

    private static void constructor(Class<?> c) {
        Constructor<?>[] found = c.getDeclaredConstructors();
        Due.is("one constructor", found.length, 1);
        Due.is("it is public", found[0].getModifiers(), Modifier.PUBLIC);
        Due.is("without parameters", found[0].getParameterCount(), 0);
    }

    private static void fields(Class<?> c) {
        Set<String> found = new TreeSet<>();
        for (Field f : c.getDeclaredFields()) {
            int m = f.getModifiers();
            if (!Modifier.isPrivate(m)) {
                found.add(f.getType() + " " + f.getName());
                Due.is(f.getName() + " is a constant", m, Modifier.PUBLIC | Modifier.STATIC | Modifier.FINAL);
            }
        }
        Due.holds("the constants are " + found, found.equals(new TreeSet<>(Arrays.asList(CONSTANTS))));
    }

    private static void classesInside(Class<?> c) {
        for (Class<?> inner : c.getDeclaredClasses()) {
            int m = inner.getModifiers();
            Due.holds(inner + " is static", Modifier.isStatic(m));
            Due.holds(inner + " is not public", !Modifier.isPublic(m) && !Modifier.isProtected(m));
            for (Method method : inner.getDeclaredMethods()) {
                Due.holds(inner + "." + method.getName() + " has a name of its own",
                        !names().contains(method.getName()));
            }
        }
    }

    private static Set<String> names() {
        Set<String> names = new TreeSet<>();
        for (String signature : FACE) {
            names.add(signature.substring(signature.indexOf(' ') + 1, signature.indexOf('(')));
        }
        return names;
    }
}
