import java.io.IOException;
import java.lang.reflect.Array;
import java.lang.reflect.Constructor;
import java.lang.reflect.Field;
import java.lang.reflect.Method;
import java.lang.reflect.Modifier;
import java.nio.file.Files;
import java.nio.file.Path;
import java.util.Arrays;
import java.util.Collections;
import java.util.IdentityHashMap;
import java.util.Set;
import java.util.TreeSet;
import java.util.regex.Matcher;
import java.util.regex.Pattern;

/** The public face of the document, and the rules of LANGUAGE.md that a program can see. */
public final class FaceTest {
    private static final String[] FACE = {
        "int mesh(int, int, int)", "int write(int, int, int)", "int stick(int, int, int)", "int cell(int, int, int)",
        "int input(int, int)", "int bits(int)", "int sum(int)", "int table(int, int, int)", "int number(int, int, int)",
        "int lay()", "long product(int)", "long due(int)", "int enough()", "int map()", "int mapped(int)", "int seal()",
        "int look()", "int fade(int)", "int pulse(int, int, int)", "int find(int, int, int)", "int actAt(int, int)",
        "int where()", "int met()", "int count(int)", "long digest()"};
    private static final Set<String> CONSTANTS = Set.of("NONE", "BAD", "NO", "SPENT");
    private static final String[] FORBIDDEN = {
        "\\bthrow\\b", "\\bthrows\\b", "\\btry\\b", "\\bcatch\\b", "\\bsynchronized\\b", "\\bassert\\b", "->", "::",
        "\\w+Exact\\b", "\\bSystem\\.(?!arraycopy)", "\\bThread\\b", "\\bRandom\\b", "\\bpackage\\b", "\\bstatic \\{", "\" \\+", "\\+ \""};
    private static final Path SOURCE = Path.of("src/main/java/MeshSums.java");

    private static final int CALLS = 512;
    private static final int MOST_OBJECTS = 600_000;
    private static final int MOST_FIELDS = 7_300_000;

    private static int wrong = 0;

    private static void check(boolean right, String otherwise) {
        if (!right) {
            wrong++;
            System.out.println(otherwise);
        }
    }

    private static boolean isPrivate(int modifiers) {
        return Modifier.isPrivate(modifiers);
    }

    private static String told(Method method) {
        String[] types = Arrays.stream(method.getParameterTypes()).map(Class::getName).toArray(String[]::new);
        return method.getReturnType().getName() + " " + method.getName() + "(" + String.join(", ", types) + ")";
    }

    private static void methods() {
        Set<String> seen = new TreeSet<>();
        Set<String> names = new TreeSet<>();
        for (Method method : MeshSums.class.getDeclaredMethods()) {
            if (!isPrivate(method.getModifiers())) {
                seen.add(told(method));
                names.add(method.getName());
                check(Modifier.isPublic(method.getModifiers()) && !Modifier.isStatic(method.getModifiers()), told(method) + " is no public method of an object");
            }
        }
        check(seen.equals(new TreeSet<>(Arrays.asList(FACE))), "the face is " + seen);
        privateNames(MeshSums.class, names);
        for (Class<?> inside : MeshSums.class.getDeclaredClasses()) {
            check(Modifier.isStatic(inside.getModifiers()), inside.getName() + " is not static");
            privateNames(inside, names);
        }
    }

    private static void privateNames(Class<?> owner, Set<String> publicNames) {
        for (Method method : owner.getDeclaredMethods()) {
            boolean free = !isPrivate(method.getModifiers()) || !publicNames.contains(method.getName());
            check(free, owner.getName() + "." + method.getName() + " bears a public method's name");
            check(method.getParameterCount() <= 7, method.getName() + " takes more than seven");
        }
        check(owner.getDeclaredFields().length <= 60, owner.getName() + " has many fields");
    }

    private static void fields() throws IllegalAccessException {
        int[] values = {MeshSums.NONE, MeshSums.BAD, MeshSums.NO, MeshSums.SPENT};
        check(Arrays.equals(values, new int[] {-1, -2, -3, -5}), "the constants are " + Arrays.toString(values));
        for (Field field : MeshSums.class.getDeclaredFields()) {
            int modifiers = field.getModifiers();
            check(isPrivate(modifiers) || CONSTANTS.contains(field.getName()), field.getName() + " is not private");
            check(!Modifier.isStatic(modifiers) || Modifier.isFinal(modifiers), field.getName() + " is static, not final");
        }
    }

    private static void makers() {
        Constructor<?>[] makers = MeshSums.class.getDeclaredConstructors();
        check(makers.length == 1 && Modifier.isPublic(makers[0].getModifiers()) && makers[0].getParameterCount() == 0, "the constructor is not as told");
        check(Modifier.isFinal(MeshSums.class.getModifiers()) && Modifier.isPublic(MeshSums.class.getModifiers()), "the class is not public and final");
    }

    private static void source() throws IOException {
        String text = Files.readString(SOURCE).replaceAll("(?s)/\\*.*?\\*/", "").replaceAll("//[^\n]*", "");
        for (String forbidden : FORBIDDEN) {
            Matcher found = Pattern.compile(forbidden).matcher(text);
            check(!found.find(), "the source has " + forbidden);
        }
        Matcher imports = Pattern.compile("import ([\\w.*]+);").matcher(text);
        while (imports.find()) {
            check(Set.of("java.util.Arrays", "java.util.ArrayList", "java.util.List").contains(imports.group(1)), "imports " + imports.group(1));
        }
    }

    /** All that an object holds, as {objects and arrays, fields and elements}. */
    private static void weigh(Object held, Set<Object> met, int[] weight) throws IllegalAccessException {
        if (held == null || !met.add(held)) {
            return;
        }
        weight[0]++;
        if (held.getClass().isArray()) {
            check(held.getClass().getComponentType().isPrimitive(), "an array of objects is not weighed");
            weight[1] += Array.getLength(held);
            return;
        }
        for (Field field : held.getClass().getDeclaredFields()) {
            if (!Modifier.isStatic(field.getModifiers())) {
                weight[1]++;
                field.setAccessible(true);
                if (!field.getType().isPrimitive()) {
                    weigh(field.get(held), met, weight);
                }
            }
        }
    }

    /** Even a run that makes a new object by each of its calls stays in the room. */
    private static void room() throws IllegalAccessException {
        int[] weight = new int[2];
        weigh(new MeshSums(), Collections.newSetFromMap(new IdentityHashMap<>()), weight);
        check(weight[0] > 10 && weight[1] > 100, "an object weighs nothing: " + Arrays.toString(weight));
        check(weight[0] * CALLS <= MOST_OBJECTS, "an object holds " + weight[0] + " objects and arrays");
        check(weight[1] * CALLS <= MOST_FIELDS, "an object holds " + weight[1] + " fields and elements");
    }

    public static void main(String[] args) throws Exception {
        methods();
        fields();
        makers();
        source();
        room();
        System.out.println(wrong == 0 ? "the face is as told" : wrong + " things are not as told");
        if (wrong != 0) {
            System.exit(1);
        }
    }
}
