import java.lang.reflect.Constructor;
import java.lang.reflect.Field;
import java.lang.reflect.Method;
import java.lang.reflect.Modifier;
import java.util.Arrays;
import java.util.TreeSet;

/** The class shows the document's face and no other member (LANGUAGE.md, rule 1). */
public final class FaceTest {
    private static final String NO_INDEX = " throws java.lang.ArrayIndexOutOfBoundsException";
    private static final String NO_INDEX_OR_ILLEGAL = NO_INDEX + ",java.lang.IllegalArgumentException";
    private static final String[] FACE = {
        "boolean cell(int,int,boolean)" + NO_INDEX,
        "int piece()",
        "boolean square(int,int,int)" + NO_INDEX_OR_ILLEGAL,
        "int placements(int)" + NO_INDEX,
        "int placement(int,int,int)" + NO_INDEX,
        "boolean sizes()",
        "int colour(int)",
        "int weight(int,int)" + NO_INDEX,
        "int text(int)",
        "boolean own(int,int,int)" + NO_INDEX,
        "int sum()",
        "int bad(int)",
        "boolean proves(int)",
        "int border(int)",
        "int runs(int)",
        "int run(int,int)",
    };

    public static void main(String[] args) {
        TreeSet<String> due = new TreeSet<>();
        TreeSet<String> names = new TreeSet<>();
        for (String method : FACE) {
            due.add("public " + method);
            names.add(method.substring(method.indexOf(' ') + 1, method.indexOf('(')));
        }
        TreeSet<String> seen = new TreeSet<>();
        for (Method method : ColourSums.class.getDeclaredMethods()) {
            if (!Modifier.isPrivate(method.getModifiers())) {
                seen.add(method.toGenericString().replace("ColourSums.", ""));
            } else {
                Check.due(method.getName() + " is a public name", false, names.contains(method.getName()));
            }
        }
        Check.due("methods that can be seen", due, seen);
        for (Field field : ColourSums.class.getDeclaredFields()) {
            Check.due(field.getName() + " is private", true, Modifier.isPrivate(field.getModifiers()));
        }
        for (Class<?> inside : ColourSums.class.getDeclaredClasses()) {
            Check.due(inside + " is static", true, Modifier.isStatic(inside.getModifiers()));
        }
        Constructor<?>[] made = ColourSums.class.getDeclaredConstructors();
        Check.due("constructors", "[public ColourSums(int,int)]", Arrays.toString(made));
        Check.due("modifiers", "public final", Modifier.toString(ColourSums.class.getModifiers()));
        Check.end();
    }
}
