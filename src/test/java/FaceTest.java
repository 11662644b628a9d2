import java.io.IOException;
import java.lang.reflect.Field;
import java.lang.reflect.Method;
import java.lang.reflect.Modifier;
import java.nio.file.Files;
import java.nio.file.Path;
import java.util.ArrayList;
import java.util.Arrays;
import java.util.List;
import java.util.Set;
import java.util.TreeSet;

/**
 * The public face, to the letter of ../shared/DOC.md, and those rules of ../shared/LANGUAGE.md
 * that can be seen from outside. It is run in the project's folder.
 */
public final class FaceTest {
    private static final Class<?> SUBJECT = Arrivalbooks.class;
    private static final Path DOCUMENT = Path.of("../shared/DOC.md");
    private static final Path SOURCE = Path.of("src/main/java/Arrivalbooks.java");

    public static void main(String[] args) throws IOException {
        Expect.due("the class is public and final", SUBJECT.getModifiers(),
                Modifier.PUBLIC | Modifier.FINAL);
        Expect.due("its package", SUBJECT.getPackageName(), "");
        Expect.due("its constructors", SUBJECT.getDeclaredConstructors().length, 1);
        Expect.due("its constructor", SUBJECT.getDeclaredConstructors()[0].toString(),
                "public Arrivalbooks()");
        Expect.due("its public methods", publicMethods(), documentedMethods());
        Expect.due("its public constants", publicFields(),
                Set.of("NONE", "KEYS", "VALUES", "PAIRS"));
        constants();
        for (Class<?> type : allClasses()) {
            rulesOfOneClass(type);
        }
        Expect.due("rule 11: some twelve classes", allClasses().size() <= 12, true);
        wordsOfTheSource();
        Expect.finish("FaceTest");
    }

    private static void constants() {
        Expect.due("NONE", Arrivalbooks.NONE, -1);
        Expect.due("KEYS", Arrivalbooks.KEYS, 0);
        Expect.due("VALUES", Arrivalbooks.VALUES, 1);
        Expect.due("PAIRS", Arrivalbooks.PAIRS, 2);
    }

    private static List<Class<?>> allClasses() {
        List<Class<?>> all = new ArrayList<>();
        all.add(SUBJECT);
        all.addAll(Arrays.asList(SUBJECT.getDeclaredClasses()));
        return all;
    }

    /** As the document writes them: "boolean put(int,int,int) throws A,B". */
    private static Set<String> documentedMethods() throws IOException {
        Set<String> found = new TreeSet<>();
        for (String line : Files.readAllLines(DOCUMENT)) {
            String text = line.trim();
            if (!text.startsWith("public ") || text.contains("class") || text.contains("static")
                    || text.contains("Arrivalbooks(")) {
                continue;
            }
            text = text.substring("public ".length(), text.length() - 1);
            found.add(text.replaceAll("int \\w+([,)])", "int$1").replace(", ", ","));
        }
        return found;
    }

    private static Set<String> publicMethods() {
        Set<String> found = new TreeSet<>();
        for (Method method : SUBJECT.getDeclaredMethods()) {
            if (!Modifier.isPublic(method.getModifiers())) {
                continue;
            }
            List<String> ints = new ArrayList<>();
            for (Class<?> type : method.getParameterTypes()) {
                ints.add(type.getName());
            }
            List<String> thrown = new ArrayList<>();
            for (Class<?> type : method.getExceptionTypes()) {
                thrown.add(type.getSimpleName());
            }
            found.add(method.getReturnType() + " " + method.getName()
                    + "(" + String.join(",", ints) + ")"
                    + (thrown.isEmpty() ? "" : " throws " + String.join(",", thrown)));
        }
        return found;
    }

    private static Set<String> publicFields() {
        Set<String> found = new TreeSet<>();
        for (Field field : SUBJECT.getDeclaredFields()) {
            if (!Modifier.isPrivate(field.getModifiers())) {
                found.add(field.getName());
            }
        }
        return found;
    }

    private static void rulesOfOneClass(Class<?> type) {
        int fields = 0;
        for (Field field : type.getDeclaredFields()) {
            int modifiers = field.getModifiers();
            if (Modifier.isStatic(modifiers)) {
                Expect.due("rule 5: final " + field, Modifier.isFinal(modifiers), true);
            } else {
                fields++;
            }
        }
        Expect.due("rule 11: some twenty fields of " + type, fields <= 20, true);
        for (Method method : type.getDeclaredMethods()) {
            Expect.due("rule 11: parameters of " + method, method.getParameterCount() <= 7, true);
            if (type != SUBJECT || !Modifier.isPublic(method.getModifiers())) {
                Expect.due("rule 1: no public name " + method, isPublicName(method.getName()),
                        false);
                Expect.due("rule 1: private or inside " + method,
                        type != SUBJECT || Modifier.isPrivate(method.getModifiers()), true);
            }
        }
        if (type != SUBJECT) {
            int modifiers = type.getModifiers();
            Expect.due("rule 1: static " + type, Modifier.isStatic(modifiers), true);
            Expect.due("rule 1: not public " + type,
                    Modifier.isPublic(modifiers) || Modifier.isProtected(modifiers), false);
        }
    }

    private static boolean isPublicName(String name) {
        for (Method method : SUBJECT.getMethods()) {
            if (method.getName().equals(name)) {
                return true;
            }
        }
        return false;
    }

    /** The program catches nothing, and takes one thing of the library beside java.lang. */
    private static void wordsOfTheSource() throws IOException {
        String text = Files.readString(SOURCE);
        for (String word : new String[] {
            "try", "catch", "finally", "synchronized", "assert", "System", "Exact", "package"
        }) {
            Expect.due("the word " + word, text.matches("(?s).*\\b" + word + "\\b.*"), false);
        }
        for (String sign : new String[] {"->", "::", "\t"}) {
            Expect.due("the sign " + sign, text.contains(sign), false);
        }
        for (String line : text.split("\n")) {
            if (line.startsWith("import")) {
                Expect.due("an import", line, "import java.util.NoSuchElementException;");
            }
        }
        Expect.due("signs of ASCII alone", text.chars().allMatch(sign -> sign < 128), true);
    }
}
