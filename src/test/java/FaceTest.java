import java.lang.reflect.Constructor;
import java.lang.reflect.Field;
import java.lang.reflect.Method;
import java.lang.reflect.Modifier;
import java.util.TreeSet;

/** The public face, with every name, modifier, parameter and exception that it tells. */
public final class FaceTest {
    private static final String[] METHODS = {
        "int layer(int,int) IllegalArgumentException,IllegalStateException",
        "int clear(int) IndexOutOfBoundsException",
        "int clearThin(int) IllegalArgumentException",
        "int aim(int,int) IndexOutOfBoundsException,IllegalArgumentException",
        "int turn(int) IndexOutOfBoundsException",
        "int set(int,int) IndexOutOfBoundsException,IllegalArgumentException",
        "int scan(int,int) IndexOutOfBoundsException",
        "int log() ",
        "int append(int) IllegalArgumentException,IllegalStateException",
        "int clearBuffer() ",
        "int firstError() ",
        "int execute() IllegalArgumentException",
        "int undo() IllegalStateException",
        "int keep(int) IllegalArgumentException",
        "int goBack(int) IllegalArgumentException,IllegalStateException",
        "int layerOf(int,int) IndexOutOfBoundsException,IllegalArgumentException",
        "int spot(int,int,int) IndexOutOfBoundsException,IllegalArgumentException",
        "int reading(int) IllegalArgumentException",
        "int night(int,int) IllegalArgumentException",
        "int count(int) IllegalArgumentException",
        "int nearest(int,int,int) IndexOutOfBoundsException,IllegalArgumentException",
        "int ifScanned(int,int) IndexOutOfBoundsException,IllegalArgumentException",
        "int clearEnough() ",
        "float meanError() ",
    };

    private static String names(Class<?>[] classes) {
        StringBuilder names = new StringBuilder();
        for (Class<?> c : classes) {
            names.append(names.length() == 0 ? "" : ",").append(c.getSimpleName());
        }
        return names.toString();
    }

    private static void face() {
        Class<?> c = CloudBeams.class;
        Check.same("the class's modifiers", Modifier.PUBLIC | Modifier.FINAL, c.getModifiers());
        TreeSet<String> found = new TreeSet<>();
        TreeSet<String> publicNames = new TreeSet<>();
        for (Method m : c.getDeclaredMethods()) {
            if (!Modifier.isPrivate(m.getModifiers())) {
                Check.same(m.getName() + "'s modifiers", Modifier.PUBLIC, m.getModifiers());
                found.add(m.getReturnType().getSimpleName() + " " + m.getName() + "(" + names(m.getParameterTypes())
                    + ") " + names(m.getExceptionTypes()));
                publicNames.add(m.getName());
            }
        }
        Check.sameText("the methods", new TreeSet<>(java.util.List.of(METHODS)).toString(), found.toString());
        privateNames(c, publicNames);
        for (Class<?> inside : c.getDeclaredClasses()) {
            privateNames(inside, publicNames);
        }
        Constructor<?>[] constructors = c.getDeclaredConstructors();
        Check.same("the constructors", 1, constructors.length);
        Check.same("the constructor's modifiers", Modifier.PUBLIC, constructors[0].getModifiers());
        Check.same("the constructor's parameters", 0, constructors[0].getParameterCount());
    }

    private static void privateNames(Class<?> c, TreeSet<String> publicNames) {
        for (Method m : c.getDeclaredMethods()) {
            if (c != CloudBeams.class || Modifier.isPrivate(m.getModifiers())) {
                Check.same("a method of one's own named " + m.getName(), 0, publicNames.contains(m.getName()) ? 1 : 0);
            }
        }
    }

    private static void fields() {
        for (Field f : CloudBeams.class.getDeclaredFields()) {
            int due = f.getName().equals("NONE") ? Modifier.PUBLIC : Modifier.PRIVATE;
            int reach = f.getModifiers() & (Modifier.PUBLIC | Modifier.PROTECTED | Modifier.PRIVATE);
            Check.same(f.getName() + "'s reach", due, reach);
            if (Modifier.isStatic(f.getModifiers())) {
                Check.same(f.getName() + " is final", 1, Modifier.isFinal(f.getModifiers()) ? 1 : 0);
            }
        }
        Check.same("NONE", -99999, CloudBeams.NONE);
    }

    public static void main(String[] args) {
        face();
        fields();
        Check.end();
    }
}
