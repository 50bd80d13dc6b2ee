import java.lang.reflect.Constructor;
import java.lang.reflect.Field;
import java.lang.reflect.Method;
import java.lang.reflect.Modifier;
import java.nio.file.Files;
import java.nio.file.Path;
import java.util.Arrays;
import java.util.HashSet;
import java.util.Set;
import java.util.TreeSet;
import java.util.regex.Pattern;

/** The public face of the document, and the rules of LANGUAGE.md that a test can see. */
public final class FaceTest {
    private static final Check CHECK = new Check("FaceTest");
    private static final Set<String> FACE = new TreeSet<>(Arrays.asList(
            "int person 4", "boolean mark 3", "int house 5", "boolean day 1", "boolean one 2", "boolean part 1",
            "boolean strike 1", "int name 2", "int leads 2", "boolean bridge 4", "int holds 3", "int cross 4",
            "int back 5", "boolean lose 1", "boolean anew 2", "int joins 3", "int least 2", "int count 3",
            "int record 2", "int given 2", "int look 2", "int tell 1"));

    public static void main(String[] args) throws Exception {
        theFaceIsTheDocuments();
        theConstantIsThere();
        classesInsideAreHiddenAndStatic();
        staticFieldsAreFinal();
        forbiddenWordsAreNotUsed();
        CHECK.end();
    }

    private static void theFaceIsTheDocuments() {
        Class<?> face = OtherNames.class;
        int modifiers = face.getModifiers();
        CHECK.due("public and final", Modifier.isPublic(modifiers) && Modifier.isFinal(modifiers), true);
        Set<String> found = new TreeSet<>();
        for (Method method : face.getDeclaredMethods()) {
            boolean hidden = Modifier.isPrivate(method.getModifiers());
            if (!hidden) {
                CHECK.due(method + " is public", Modifier.isPublic(method.getModifiers()), true);
                CHECK.due(method + " is not static", Modifier.isStatic(method.getModifiers()), false);
                found.add(method.getReturnType() + " " + method.getName() + " " + method.getParameterCount());
                for (Class<?> type : method.getParameterTypes()) {
                    CHECK.due(method + " takes ints", type == int.class, true);
                }
            }
        }
        CHECK.due("methods " + found, found.equals(FACE), true);
        Constructor<?>[] constructors = face.getDeclaredConstructors();
        CHECK.due("constructors", constructors.length, 1);
        CHECK.due("its parameters", constructors[0].getParameterCount(), 0);
        CHECK.due("it is public", Modifier.isPublic(constructors[0].getModifiers()), true);
    }

    private static void theConstantIsThere() {
        CHECK.due("NONE", OtherNames.NONE, -1);
        for (Field field : OtherNames.class.getDeclaredFields()) {
            boolean hidden = Modifier.isPrivate(field.getModifiers());
            CHECK.due(field + " is private or NONE", hidden || field.getName().equals("NONE"), true);
        }
    }

    private static void classesInsideAreHiddenAndStatic() {
        Set<String> names = new HashSet<>();
        FACE.forEach(line -> names.add(line.split(" ")[1]));
        for (Class<?> inside : OtherNames.class.getDeclaredClasses()) {
            int modifiers = inside.getModifiers();
            CHECK.due(inside + " is static", Modifier.isStatic(modifiers), true);
            CHECK.due(inside + " is hidden", Modifier.isPublic(modifiers) || Modifier.isProtected(modifiers), false);
            for (Method method : inside.getDeclaredMethods()) {
                CHECK.due(method + " has a name of its own", names.contains(method.getName()), false);
            }
        }
        for (Method method : OtherNames.class.getDeclaredMethods()) {
            boolean hidden = Modifier.isPrivate(method.getModifiers());
            CHECK.due(method + " has a name of its own", hidden && names.contains(method.getName()), false);
        }
    }

    private static void staticFieldsAreFinal() {
        Set<Class<?>> classes = new HashSet<>(Arrays.asList(OtherNames.class.getDeclaredClasses()));
        classes.add(OtherNames.class);
        for (Class<?> each : classes) {
            for (Field field : each.getDeclaredFields()) {
                int modifiers = field.getModifiers();
                CHECK.due(field + " is final", Modifier.isStatic(modifiers) && !Modifier.isFinal(modifiers), false);
            }
        }
    }

    private static void forbiddenWordsAreNotUsed() throws Exception {
        String text = Files.readString(Path.of("src/main/java/OtherNames.java"));
        String code = text.replaceAll("(?s)/\\*.*?\\*/", "").replaceAll("//.*", "");
        String[] words = {"throw", "try", "catch", "synchronized", "assert", "import", "package", "protected", "\\w+Exact"};
        for (String word : words) {
            boolean used = Pattern.compile("\\b" + word + "\\b").matcher(code).find();
            CHECK.due("the word " + word, used, false);
        }
        CHECK.due("a lambda or a method reference", code.contains("->") || code.contains("::"), false);
    }
}
