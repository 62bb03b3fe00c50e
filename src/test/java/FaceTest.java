import java.lang.reflect.Constructor;
import java.lang.reflect.Executable;
import java.lang.reflect.Field;
import java.lang.reflect.Method;
import java.lang.reflect.Modifier;
import java.util.ArrayList;
import java.util.Arrays;
import java.util.Collections;
import java.util.HashSet;
import java.util.List;
import java.util.Set;

/** "The public face": just these members; and what LANGUAGE.md says of members (rules 1, 2, 5 and 11). */
public final class FaceTest {
    private static final String[] FACE = {
        "int feed(int, long) throws IllegalArgumentException, IllegalStateException",
        "int wipe()",
        "int load()",
        "int run(int, int, boolean) throws IllegalArgumentException, IllegalStateException",
        "int node(int, int) throws NoSuchElementException",
        "long root(int, int) throws NoSuchElementException",
        "long typeRoot(int, boolean, int) throws NoSuchElementException",
        "int type(int, boolean) throws NoSuchElementException",
        "int say()",
        "int speak() throws IllegalStateException",
        "int again()",
        "int value(int, boolean) throws NoSuchElementException",
        "int worth(int, boolean) throws NoSuchElementException",
        "int write() throws IllegalStateException",
        "long out(int) throws NoSuchElementException",
        "int look(int) throws IllegalArgumentException",
    };

    private FaceTest() {
    }

    public static void main(String[] args) {
        Checks.test("the public face: the class", FaceTest::theClass);
        Checks.test("the public face: its constructor", FaceTest::constructor);
        Checks.test("the public face: its methods, and no other", FaceTest::methods);
        Checks.test("the public face: no other member", FaceTest::otherMembers);
        Checks.test("rule 1: no private method bears the name of a public one", FaceTest::names);
        Checks.test("rule 5: static fields are constants", FaceTest::staticFields);
        Checks.test("rule 11: parameters, fields and classes are few", FaceTest::fewOfAll);
        Checks.end();
    }

    private static List<Class<?>> classes() {
        List<Class<?>> all = new ArrayList<>(Arrays.asList(ComboHouse.class.getDeclaredClasses()));
        all.add(ComboHouse.class);
        return all;
    }

    private static void theClass() {
        int is = ComboHouse.class.getModifiers();
        Checks.due("public and final", Modifier.isPublic(is) && Modifier.isFinal(is));
        Checks.due("its name", ComboHouse.class.getName(), "ComboHouse");
        Checks.due("what it extends", ComboHouse.class.getSuperclass().getName(), "java.lang.Object");
        Checks.due("what it implements", ComboHouse.class.getInterfaces().length, 0);
    }

    private static void constructor() {
        Constructor<?>[] all = ComboHouse.class.getDeclaredConstructors();
        Checks.due("constructors", all.length, 1);
        Checks.due("it is public", Modifier.isPublic(all[0].getModifiers()));
        Checks.due("what it takes", all[0].getParameterCount(), 0);
        Checks.due("what it throws", all[0].getExceptionTypes().length, 0);
    }

    private static String told(Method m) {
        String takes = String.join(", ", simpleNames(m.getParameterTypes()));
        String throwing = String.join(", ", simpleNames(m.getExceptionTypes()));
        return m.getReturnType().getSimpleName() + " " + m.getName() + "(" + takes + ")"
                + (throwing.isEmpty() ? "" : " throws " + throwing);
    }

    private static List<String> simpleNames(Class<?>[] types) {
        List<String> names = new ArrayList<>();
        for (Class<?> t : types) {
            names.add(t.getSimpleName());
        }
        return names;
    }

    private static void methods() {
        List<String> got = new ArrayList<>();
        for (Method m : ComboHouse.class.getDeclaredMethods()) {
            if (!Modifier.isPrivate(m.getModifiers())) {
                got.add(told(m));
                Checks.due(m.getName() + " is public", Modifier.isPublic(m.getModifiers()));
                Checks.due(m.getName() + " is an object's", !Modifier.isStatic(m.getModifiers()));
            }
        }
        List<String> want = new ArrayList<>(Arrays.asList(FACE));
        Collections.sort(got);
        Collections.sort(want);
        Checks.due("the methods", got.toString(), want.toString());
    }

    private static void otherMembers() {
        for (Field f : ComboHouse.class.getDeclaredFields()) {
            Checks.due(f.getName() + " is private", Modifier.isPrivate(f.getModifiers()));
        }
        for (Class<?> c : ComboHouse.class.getDeclaredClasses()) {
            int is = c.getModifiers();
            Checks.due(c.getName() + " is static", Modifier.isStatic(is));
            Checks.due(c.getName() + " is not seen", !Modifier.isPublic(is) && !Modifier.isProtected(is));
        }
    }

    private static void names() {
        Set<String> face = new HashSet<>();
        for (Method m : ComboHouse.class.getMethods()) {
            if (m.getDeclaringClass() == ComboHouse.class) {
                face.add(m.getName());
            }
        }
        for (Class<?> c : classes()) {
            for (Method m : c.getDeclaredMethods()) {
                boolean hides = Modifier.isPrivate(m.getModifiers()) && face.contains(m.getName());
                Checks.due(c.getName() + "'s " + m.getName() + " has a name of its own", !hides);
            }
        }
    }

    private static void staticFields() {
        Set<String> fine = new HashSet<>(Arrays.asList("int", "long", "boolean", "char", "String",
                "int[]", "long[]", "char[]", "byte[]"));
        for (Class<?> c : classes()) {
            for (Field f : c.getDeclaredFields()) {
                if (Modifier.isStatic(f.getModifiers())) {
                    Checks.due(c.getName() + "'s " + f.getName() + " is final",
                            Modifier.isFinal(f.getModifiers()));
                    Checks.due(c.getName() + "'s " + f.getName() + " is a constant",
                            fine.contains(f.getType().getSimpleName()));
                }
            }
        }
    }

    private static void fewOfAll() {
        Checks.due("twelve classes at most", classes().size() <= 12);
        for (Class<?> c : classes()) {
            int fields = 0;
            for (Field f : c.getDeclaredFields()) {
                fields += Modifier.isStatic(f.getModifiers()) ? 0 : 1;
            }
            Checks.due(c.getName() + " has twenty fields at most", fields <= 20);
            List<Executable> all = new ArrayList<>(Arrays.asList(c.getDeclaredMethods()));
            all.addAll(Arrays.asList(c.getDeclaredConstructors()));
            for (Executable e : all) {
                Checks.due(e + " takes seven at most", e.getParameterCount() <= 7);
            }
        }
    }
}
