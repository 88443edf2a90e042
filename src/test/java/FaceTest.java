import java.lang.reflect.Constructor;
import java.lang.reflect.Field;
import java.lang.reflect.Method;
import java.lang.reflect.Modifier;
import java.util.Arrays;
import java.util.Set;
import java.util.TreeSet;

/** The class has the document's public face, with the same constants, and nothing beside it. */
public final class FaceTest {
    private static final String[] METHODS = {
        "int point(int,int,int)", "int take(int)", "int move(int,int,int)", "int weigh(int,int)",
        "int pace(int,int,int)", "int at(int,int)", "int kernel(int,int,int)", "int capacity(int)",
        "long sum(int,int)", "long across(int,int,int,int,int)", "int order(int,int,int,long)",
        "int way(int,int,int,int,int)", "int box(int,int,int,int)",
        "long moment(int,int,int,int,int)", "int leaf(int,int)", "int nearest(int,int,int)",
        "int step(int)", "int count(int)", "long digest()"};
    private static final Check CHECK = new Check();

    public static void main(String[] args) {
        constants();
        methods();
        members();
        for (Class<?> inside : FarSums.class.getDeclaredClasses()) {
            CHECK.holds(inside + " is static", Modifier.isStatic(inside.getModifiers()));
            CHECK.holds(inside + " is not public", !Modifier.isPublic(inside.getModifiers()));
        }
        CHECK.end();
    }

    private static void constants() {
        CHECK.due("NONE", FarSums.NONE, -1);
        CHECK.due("BAD", FarSums.BAD, -2);
        CHECK.due("FULL", FarSums.FULL, -4);
        CHECK.due("NOT", FarSums.NOT, -9000000000000000000L);
        CHECK.due("public fields", FarSums.class.getFields().length, 4);
    }

    private static void methods() {
        Set<String> found = new TreeSet<>();
        Set<String> names = new TreeSet<>();
        for (Method method : FarSums.class.getDeclaredMethods()) {
            if (Modifier.isPublic(method.getModifiers())) {
                String types = Arrays.toString(method.getParameterTypes()).replace(", ", ",");
                found.add(method.getReturnType() + " " + method.getName()
                    + "(" + types.substring(1, types.length() - 1) + ")");
                names.add(method.getName());
            }
        }
        CHECK.holds("the public methods are those of the document, not " + found,
            found.equals(new TreeSet<>(Arrays.asList(METHODS))));
        for (Method method : FarSums.class.getDeclaredMethods()) {
            if (!Modifier.isPublic(method.getModifiers())) {
                CHECK.holds(method + " has a name of its own", !names.contains(method.getName()));
            }
        }
    }

    private static void members() {
        int modifiers = FarSums.class.getModifiers();
        CHECK.holds("public final", Modifier.isPublic(modifiers) && Modifier.isFinal(modifiers));
        Constructor<?>[] constructors = FarSums.class.getDeclaredConstructors();
        CHECK.due("constructors", constructors.length, 1);
        CHECK.due("its parameters", constructors[0].getParameterCount(), 0);
        CHECK.holds("it is public", Modifier.isPublic(constructors[0].getModifiers()));
        for (Method method : FarSums.class.getDeclaredMethods()) {
            int m = method.getModifiers();
            CHECK.holds(method + " is public or private", Modifier.isPublic(m) || Modifier.isPrivate(m));
        }
        for (Field field : FarSums.class.getDeclaredFields()) {
            int m = field.getModifiers();
            CHECK.holds(field + " is public or private", Modifier.isPublic(m) || Modifier.isPrivate(m));
            CHECK.holds(field + " is final", Modifier.isFinal(m));
        }
    }
}
