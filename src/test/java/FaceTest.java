import java.lang.reflect.Constructor;
import java.lang.reflect.Field;
import java.lang.reflect.Method;
import java.lang.reflect.Modifier;
import java.util.ArrayList;
import java.util.Collections;
import java.util.List;

/** The public face: the document's constants, constructor and methods, and nothing else that is not private. */
public final class FaceTest {
    public static void main(String[] args) throws IllegalAccessException {
        constants();
        methods();
        classes();
        Bench.end();
    }

    private static void constants() throws IllegalAccessException {
        Bench.sentence(Bench.TERMS, "The constants: `CUT = -3`, `STRANGE = -4`: What an image may come to. "
                + "`SPOILED = -5`, `UNSAFE = -6`, `WRONG = -7`, `TWICE = -8`: What taking out a file may come to. "
                + "`CHAIN = 0`, `INDEX = 1`: Forms.");
        List<String> seen = new ArrayList<>();
        for (Field field : ArchiveBench.class.getDeclaredFields()) {
            if (Modifier.isPrivate(field.getModifiers())) {
                continue;
            }
            Bench.due(field + " is a public constant", field.getModifiers(),
                    Modifier.PUBLIC | Modifier.STATIC | Modifier.FINAL);
            seen.add(field.getName() + "=" + field.getInt(null));
        }
        same("constants", seen, List.of("REFUSED=-1", "FULL=-2", "CUT=-3", "STRANGE=-4", "SPOILED=-5", "UNSAFE=-6",
                "WRONG=-7", "TWICE=-8", "CHAIN=0", "INDEX=1"));
    }

    private static void methods() {
        List<String> open = new ArrayList<>();
        List<String> hidden = new ArrayList<>();
        for (Method method : ArchiveBench.class.getDeclaredMethods()) {
            if (Modifier.isPrivate(method.getModifiers())) {
                hidden.add(method.getName());
                continue;
            }
            Bench.due(method + " is public", method.getModifiers(), Modifier.PUBLIC);
            Bench.due(method + " answers an int", method.getReturnType() == int.class ? 1 : 0, 1);
            for (Class<?> type : method.getParameterTypes()) {
                Bench.due(method + " takes ints", type == int.class ? 1 : 0, 1);
            }
            open.add(method.getName() + method.getParameterCount());
        }
        same("methods", open, List.of("name1", "data2", "add1", "pack1", "put2", "cut1", "image1", "open0", "place0",
                "take1", "taken1", "file2", "count1"));
        for (String name : hidden) {
            for (String other : open) {
                Bench.due(name + " is not a public method's name too",
                        other.substring(0, other.length() - 1).equals(name) ? 1 : 0, 0);
            }
        }
    }

    private static void classes() {
        Bench.due("the class is public and final", ArchiveBench.class.getModifiers(), Modifier.PUBLIC | Modifier.FINAL);
        Constructor<?>[] constructors = ArchiveBench.class.getDeclaredConstructors();
        Bench.due("constructors", constructors.length, 1);
        Bench.due("the constructor is public", constructors[0].getModifiers(), Modifier.PUBLIC);
        Bench.due("the constructor takes nothing", constructors[0].getParameterCount(), 0);
        for (Class<?> inside : ArchiveBench.class.getDeclaredClasses()) {
            int modifiers = inside.getModifiers();
            Bench.due(inside + " is static", Modifier.isStatic(modifiers) ? 1 : 0, 1);
            Bench.due(inside + " is not public", Modifier.isPublic(modifiers) || Modifier.isProtected(modifiers) ? 1 : 0, 0);
        }
    }

    private static void same(String what, List<String> got, List<String> want) {
        List<String> left = new ArrayList<>(got);
        List<String> right = new ArrayList<>(want);
        Collections.sort(left);
        Collections.sort(right);
        if (!left.equals(right)) {
            Bench.due(what + " " + left + " instead of " + right, 0, 1);
        }
    }
}
