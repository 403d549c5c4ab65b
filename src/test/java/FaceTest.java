import java.io.IOException;
import java.lang.reflect.Constructor;
import java.lang.reflect.Field;
import java.lang.reflect.Method;
import java.lang.reflect.Modifier;
import java.nio.file.Files;
import java.nio.file.Path;
import java.util.ArrayList;
import java.util.HashSet;
import java.util.List;
import java.util.Set;
import java.util.TreeSet;

/**
 * The class has the document's face and no other, and the shape that LANGUAGE.md asks for. Run in the project's
 * folder.
 */
public final class FaceTest {
    private static final Due DUE = new Due("FaceTest");
    private static final String[] FACE = {
        "public int write(int)", "public int wipe()", "public int fault()", "public int street()",
        "public int smell(int)", "public int wind(int)", "public int nose(int,int)", "public int pennies()",
        "public int hour(boolean)", "public int chimney(int)", "public int undo()", "public int by(int)",
        "public int best(boolean)", "public int bestChimney()", "public int share(int,boolean)",
        "public int judge(int,int)", "public int had(int)", "public int only(int)",
        "public int see(int,int,boolean)", "public int unsee()", "public int when(int)",
        "public long mean(int,int,boolean)", "public long fair(int,int,int,boolean)",
        "public int bakers(int,int)", "public long seed(long)", "public int mornings(int)",
        "public int keep(int)", "public int again(int)", "public int count(int)",
    };

    private static final Path DOCUMENT = Path.of("../shared/DOC.md");

    public static void main(String[] args) throws IOException {
        constants();
        face();
        if (Files.exists(DOCUMENT)) {
            listIsTheDocuments(Files.readString(DOCUMENT));
        }
        shape();
        DUE.end();
    }

    private static void constants() {
        DUE.is("UNKNOWN", MorningBill.UNKNOWN, -1);
        DUE.is("OUTSIDE", MorningBill.OUTSIDE, -2);
        DUE.is("STATE", MorningBill.STATE, -3);
        DUE.is("FULL", MorningBill.FULL, -4);
        DUE.is("NONE", MorningBill.NONE, -99);
    }

    private static boolean isPrivate(int modifiers) {
        return Modifier.isPrivate(modifiers);
    }

    private static void face() {
        int modifiers = MorningBill.class.getModifiers();
        DUE.holds("the class is public and final", Modifier.isPublic(modifiers) && Modifier.isFinal(modifiers));
        Set<String> methods = new TreeSet<>();
        for (Method method : MorningBill.class.getDeclaredMethods()) {
            if (!isPrivate(method.getModifiers())) {
                methods.add(method.toString().replace("MorningBill.", ""));
            }
        }
        DUE.holds("the methods are the document's: " + methods, methods.equals(new TreeSet<>(List.of(FACE))));
        List<String> fields = new ArrayList<>();
        for (Field field : MorningBill.class.getDeclaredFields()) {
            if (!isPrivate(field.getModifiers())) {
                fields.add(field.toString().replace("MorningBill.", ""));
            }
        }
        DUE.is("public constants", fields.size(), 5);
        for (String field : fields) {
            DUE.holds(field, field.startsWith("public static final int "));
        }
        Constructor<?>[] constructors = MorningBill.class.getDeclaredConstructors();
        DUE.is("constructors", constructors.length, 1);
        DUE.holds("it is public", Modifier.isPublic(constructors[0].getModifiers()));
        DUE.is("its parameters", constructors[0].getParameterCount(), 0);
    }

    /** The list above has the methods that stand in the document's own face, without the names of their numbers. */
    private static void listIsTheDocuments(String document) {
        int from = document.indexOf("```java");
        String face = document.substring(from, document.indexOf("```", from + 3));
        Set<String> methods = new TreeSet<>();
        for (String line : face.lines().toList()) {
            if (line.matches("    public (int|long) .*")) {
                methods.add(line.trim().replace(";", "").replaceAll("(int|long|boolean) \\w+(?=[,)])", "$1")
                    .replace(", ", ","));
            }
        }
        DUE.holds("the list is the document's: " + methods, methods.equals(new TreeSet<>(List.of(FACE))));
        DUE.holds("so are the constants", face.contains("    public static final int UNKNOWN = -1, OUTSIDE = -2,"
            + " STATE = -3, FULL = -4, NONE = -99;"));
    }

    private static void shape() {
        Class<?>[] inside = MorningBill.class.getDeclaredClasses();
        DUE.holds("some twelve classes", inside.length <= 11);
        Set<String> names = new HashSet<>();
        for (Method method : MorningBill.class.getMethods()) {
            names.add(method.getName());
        }
        shapeOf(MorningBill.class, names);
        for (Class<?> each : inside) {
            DUE.holds(each + " is static", Modifier.isStatic(each.getModifiers()));
            DUE.holds(each + " is not public", !Modifier.isPublic(each.getModifiers()));
            shapeOf(each, names);
        }
    }

    private static void shapeOf(Class<?> each, Set<String> names) {
        int fields = 0;
        for (Field field : each.getDeclaredFields()) {
            boolean still = Modifier.isStatic(field.getModifiers());
            fields += still ? 0 : 1;
            DUE.holds(field + ": a static field is final", !still || Modifier.isFinal(field.getModifiers()));
        }
        DUE.holds(each + " has some twenty fields at most", fields <= 20);
        for (Method method : each.getDeclaredMethods()) {
            DUE.holds(method + " has seven parameters at most", method.getParameterCount() <= 7);
            boolean hidden = each != MorningBill.class || isPrivate(method.getModifiers());
            DUE.holds(method + " does not bear a public name", !hidden || !names.contains(method.getName()));
        }
    }
}
