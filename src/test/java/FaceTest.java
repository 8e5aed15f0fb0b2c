import java.lang.reflect.Constructor;
import java.lang.reflect.Field;
import java.lang.reflect.Method;
import java.lang.reflect.Modifier;
import java.util.TreeSet;

/** The class has the document's face and nothing else that others can see (LANGUAGE.md, rule 1). */
public final class FaceTest {
    private static final String[] FACE = {
        "public void step(int, int) throws IllegalStateException, IllegalArgumentException",
        "public int cast(int) throws IllegalArgumentException, UnsupportedOperationException",
        "public int want(int, int) throws IllegalStateException, IllegalArgumentException",
        "public void span(int, int, int) throws IndexOutOfBoundsException, IllegalArgumentException",
        "public void trim(int, int) throws IllegalArgumentException",
        "public int bad(int, int) throws IllegalStateException, IllegalArgumentException",
        "public int bar(int, int) throws IllegalStateException, IllegalArgumentException",
        "public int loss()",
        "public int part(int, int) throws IndexOutOfBoundsException",
        "public int cut() throws IllegalStateException, UnsupportedOperationException",
        "public int slab(int, int) throws IndexOutOfBoundsException",
        "public long weight(int) throws IndexOutOfBoundsException",
        "public int count(int) throws IndexOutOfBoundsException",
        "public int torch()",
        "public CutLengths()",
    };

    public static void main(String[] args) {
        Checks checks = new Checks();
        TreeSet<String> due = new TreeSet<>();
        for (String member : FACE) {
            due.add(member);
        }
        checks.same("the members that others can see", due, visibleMembers());
        checks.same("the class's modifiers", Modifier.PUBLIC | Modifier.FINAL, CutLengths.class.getModifiers());
        checks.same("private methods with a public one's name", new TreeSet<String>(), doubleNames());
        for (Class<?> inside : CutLengths.class.getDeclaredClasses()) {
            checks.same(inside.getName() + " is static", true, Modifier.isStatic(inside.getModifiers()));
        }
        checks.end();
    }

    private static TreeSet<String> visibleMembers() {
        TreeSet<String> members = new TreeSet<>();
        for (Constructor<?> constructor : CutLengths.class.getDeclaredConstructors()) {
            if (!Modifier.isPrivate(constructor.getModifiers())) {
                members.add(plain(constructor.toGenericString()));
            }
        }
        for (Method method : CutLengths.class.getDeclaredMethods()) {
            if (!Modifier.isPrivate(method.getModifiers())) {
                members.add(plain(method.toGenericString()));
            }
        }
        for (Field field : CutLengths.class.getDeclaredFields()) {
            if (!Modifier.isPrivate(field.getModifiers())) {
                members.add(field.toString());
            }
        }
        return members;
    }

    private static String plain(String member) {
        return member.replace("CutLengths.", "").replace("java.lang.", "")
            .replaceAll(" *, *", ", ");
    }

    private static TreeSet<String> doubleNames() {
        TreeSet<String> open = new TreeSet<>();
        for (Method method : CutLengths.class.getMethods()) {
            open.add(method.getName());
        }
        TreeSet<String> doubles = new TreeSet<>();
        collectDoubles(CutLengths.class, open, doubles);
        for (Class<?> inside : CutLengths.class.getDeclaredClasses()) {
            collectDoubles(inside, open, doubles);
        }
        return doubles;
    }

    private static void collectDoubles(Class<?> place, TreeSet<String> open, TreeSet<String> doubles) {
        for (Method method : place.getDeclaredMethods()) {
            if (!Modifier.isPublic(method.getModifiers()) && open.contains(method.getName())) {
                doubles.add(place.getName() + "." + method.getName());
            }
        }
    }
}
