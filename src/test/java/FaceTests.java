import java.io.IOException;
import java.lang.reflect.Constructor;
import java.lang.reflect.Field;
import java.lang.reflect.Method;
import java.lang.reflect.Modifier;
import java.nio.file.Files;
import java.nio.file.Path;
import java.util.Arrays;
import java.util.TreeSet;

/** The public face: the members that the document names, and none beside these. */
public final class FaceTests {
    private static final String[] METHODS = {
        "feed(int a, int b, int c, int d, int e)", "end(int n)", "hill()", "rule()", "force(int rule)",
        "pilgrim(int pilgrim, int what)", "bend(int bend, int what)", "sort(int sort, int what)", "night()",
        "climb(int pilgrim)", "down(int pilgrim)", "take(int pilgrim, int sort)", "buy(int pilgrim, int sort)",
        "sell(int pilgrim, int sort)", "hand(int one, int other, int sort)", "undo()", "reach(int pilgrim, int what)",
        "lacks(int pilgrim, int what)", "ways(int pilgrim)", "sure(int pilgrim, int what)",
        "bag(int pilgrim, int what)", "both(int one, int other)", "partner(int pilgrim, int what)",
        "downwards(int pilgrim, int what)", "less(int pilgrim, int what)", "rich(int what)",
        "leaves(int sort, int many)", "gifts(int what)", "note(int n, int bend, int sort)", "ruled(int what)",
        "look(int n, int what)", "seed(int x)", "years(int m, int n, int what)", "count(int what)", "image(int k)",
        "back(int k)"};

    private FaceTests() {
    }

    public static void main(String[] args) throws IOException, IllegalAccessException {
        documentSaysThis();
        classItself();
        constants();
        constructors();
        methods();
        classesInside();
        parametersAsNamed();
        Bounds.close("FaceTests");
    }

    private static void documentSaysThis() {
        if (!Bounds.hasDocument()) {
            return;
        }
        StringBuilder face = new StringBuilder("```java\npublic final class HillBends {\n");
        face.append("    public static final int NONE = -1;\n    public HillBends();\n");
        for (String method : METHODS) {
            face.append("    public int ").append(method).append(";\n");
        }
        Checks.holds("the document's face is this one", Bounds.section("The public face").contains(face + "}\n```"));
        String first = Bounds.section("Promise 1:");
        Checks.holds("promise 1 is of the constructor", first.startsWith("\n## Promise 1: A new object\n\n`HillBends()`: "));
        for (int i = 0; i < METHODS.length; i++) {
            String name = METHODS[i].substring(0, METHODS[i].indexOf('('));
            String begin = "\n## Promise " + (i + 2) + ": " + name + "\n\n`int " + METHODS[i] + "`: ";
            Checks.holds("promise " + (i + 2) + " is of " + name, Bounds.section("Promise " + (i + 2) + ":").startsWith(begin));
        }
        Checks.holds("no promise behind the last", Bounds.section("Promise " + (METHODS.length + 2) + ":").isEmpty());
    }

    private static void classItself() {
        Class<?> face = HillBends.class;
        Checks.holds("public and final", face.getModifiers() == (Modifier.PUBLIC | Modifier.FINAL));
        Checks.holds("of no other class", face.getSuperclass() == Object.class && face.getInterfaces().length == 0);
        Checks.holds("without a package", face.getPackageName().isEmpty());
        Checks.is("type parameters", face.getTypeParameters().length, 0);
    }

    private static void constants() throws IllegalAccessException {
        Bounds.said("Terms", "The constants: `NONE = -1`: None.");
        Bounds.is("NONE", HillBends.NONE, -1);
        TreeSet<String> seen = new TreeSet<>();
        for (Field field : HillBends.class.getDeclaredFields()) {
            if (!Modifier.isPrivate(field.getModifiers())) {
                seen.add(Modifier.toString(field.getModifiers()) + " " + field.getType() + " " + field.getName() + " = " + field.get(null));
            }
        }
        Bounds.holds("no other constant or field: " + seen, seen.equals(new TreeSet<>(Arrays.asList("public static final int NONE = -1"))));
    }

    private static void constructors() {
        Constructor<?>[] all = HillBends.class.getDeclaredConstructors();
        Checks.is("constructors", all.length, 1);
        Checks.holds("public, of nothing, throwing nothing", all[0].getModifiers() == Modifier.PUBLIC
                && all[0].getParameterCount() == 0 && all[0].getExceptionTypes().length == 0);
    }

    /** The name with the types of what it takes. */
    private static String shape(String method) {
        return method.replaceAll("int \\w+", "int").replace(" ", "");
    }

    private static void methods() {
        TreeSet<String> due = new TreeSet<>();
        for (String method : METHODS) {
            due.add("public int " + shape(method));
        }
        Checks.is("methods of the face", due.size(), 36);
        TreeSet<String> seen = new TreeSet<>();
        for (Method method : HillBends.class.getDeclaredMethods()) {
            if (!Modifier.isPrivate(method.getModifiers())) {
                Checks.is(method + ": what it throws", method.getExceptionTypes().length, 0);
                String takes = Arrays.toString(method.getParameterTypes()).replaceAll("[\\[\\] ]", "");
                String kind = Modifier.toString(method.getModifiers()) + " " + method.getReturnType();
                seen.add(kind + " " + method.getName() + "(" + takes + ")");
            }
        }
        Checks.holds("methods of the face alone: " + seen, seen.equals(due));
    }

    private static void classesInside() {
        for (Class<?> inside : HillBends.class.getDeclaredClasses()) {
            int modifiers = inside.getModifiers();
            Checks.holds(inside + " is static", Modifier.isStatic(modifiers));
            Checks.holds(inside + " is not seen from outside", !Modifier.isPublic(modifiers) && !Modifier.isProtected(modifiers));
        }
    }

    /** Reflection doesn't know the names of parameters, the file does. */
    private static void parametersAsNamed() throws IOException {
        String source = Files.readString(Path.of("src/main/java/HillBends.java"));
        for (String method : METHODS) {
            Checks.holds(method + " as it is named", source.contains("\n    public int " + method + " {\n"));
        }
        Checks.holds("the constructor", source.contains("\n    public HillBends() {\n"));
        Checks.holds("the constant", source.contains("\n    public static final int NONE = -1;\n"));
    }
}
