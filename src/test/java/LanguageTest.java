import java.io.IOException;
import java.lang.reflect.Constructor;
import java.lang.reflect.Field;
import java.lang.reflect.Method;
import java.lang.reflect.Modifier;
import java.nio.file.Files;
import java.nio.file.Path;
import java.util.Arrays;
import java.util.Set;
import java.util.TreeSet;
import java.util.regex.Matcher;
import java.util.regex.Pattern;

/** The document's face, and those rules of LANGUAGE.md that can be seen from outside. */
public final class LanguageTest {
    private static final Path SOURCE = Path.of("src/main/java/CopyInserts.java");
    private static final Path DOCUMENT = Path.of("../shared/DOC.md");
    private static final String[] FORBIDDEN = {"throw", "throws", "try", "catch", "synchronized", "assert",
        "import", "package", "protected", "native", "volatile", "transient", "Exact", "->", "::", "\"\"\""};

    public static void main(String[] args) throws IOException {
        face();
        constants();
        nestedClasses();
        for (Class<?> nested : CopyInserts.class.getDeclaredClasses()) {
            shape(nested);
        }
        shape(CopyInserts.class);
        words();
        longUse();
        Check.end();
    }

    private static String signature(Method method) {
        StringBuilder all = new StringBuilder(method.getReturnType() + " " + method.getName());
        for (Class<?> type : method.getParameterTypes()) {
            all.append(' ').append(type);
        }
        return all.toString();
    }

    private static Set<String> facesMethods() throws IOException {
        String face = Files.readString(DOCUMENT).split("```")[1];
        Matcher matcher = Pattern.compile("public (\\w+) (\\w+)\\(([^)]*)\\);").matcher(face);
        Set<String> all = new TreeSet<>();
        while (matcher.find()) {
            StringBuilder one = new StringBuilder(matcher.group(1) + " " + matcher.group(2));
            for (String parameter : matcher.group(3).split(",")) {
                one.append(parameter.isBlank() ? "" : " " + parameter.trim().split(" ")[0]);
            }
            all.add(one.toString());
        }
        return all;
    }

    private static void face() throws IOException {
        Set<String> open = new TreeSet<>();
        Set<String> openNames = new TreeSet<>();
        for (Method method : CopyInserts.class.getDeclaredMethods()) {
            if (!Modifier.isPrivate(method.getModifiers())) {
                Check.due(method + " is public", method.getModifiers(), Modifier.PUBLIC);
                open.add(signature(method));
                openNames.add(method.getName());
            }
        }
        Check.due("methods of the face", open.size(), 25);
        Check.dueText("the face", open.toString(), facesMethods().toString());
        for (Method method : CopyInserts.class.getDeclaredMethods()) {
            boolean doubled = Modifier.isPrivate(method.getModifiers()) && openNames.contains(method.getName());
            Check.due("private of the same name: " + method, doubled ? 1 : 0, 0);
        }
        Constructor<?>[] constructors = CopyInserts.class.getDeclaredConstructors();
        Check.due("constructors", constructors.length, 1);
        Check.due("it is public", constructors[0].getModifiers(), Modifier.PUBLIC);
        Check.due("it takes nothing", constructors[0].getParameterCount(), 0);
        Check.due("the class", CopyInserts.class.getModifiers(), Modifier.PUBLIC | Modifier.FINAL);
    }

    private static void constants() {
        Check.due("NONE", CopyInserts.NONE, -1);
        Check.due("BAD", CopyInserts.BAD, -2);
        Check.due("FULL", CopyInserts.FULL, -3);
        Check.due("OTHER", CopyInserts.OTHER, -4);
        Check.due("FAULT", CopyInserts.FAULT, -1000);
        Set<String> open = new TreeSet<>();
        for (Field field : CopyInserts.class.getDeclaredFields()) {
            if (!Modifier.isPrivate(field.getModifiers())) {
                open.add(field.getName());
            }
        }
        Check.dueText("constants", open.toString(), "[BAD, FAULT, FULL, NONE, OTHER]");
    }

    private static void nestedClasses() {
        Class<?>[] nested = CopyInserts.class.getDeclaredClasses();
        Check.due("not above twelve classes", nested.length < 12 ? 1 : 0, 1);
        for (Class<?> one : nested) {
            Check.due(one + " is static", Modifier.isStatic(one.getModifiers()) ? 1 : 0, 1);
            Check.due(one + " is not public", Modifier.isPublic(one.getModifiers()) ? 1 : 0, 0);
        }
    }

    private static void shape(Class<?> one) {
        int own = 0;
        for (Field field : one.getDeclaredFields()) {
            if (Modifier.isStatic(field.getModifiers())) {
                Check.due(field + " is final", Modifier.isFinal(field.getModifiers()) ? 1 : 0, 1);
            } else {
                own++;
            }
        }
        Check.due(one + " has few fields", own <= 20 ? 1 : 0, 1);
        for (Method method : one.getDeclaredMethods()) {
            Check.due(method + " takes few", method.getParameterCount() <= 7 ? 1 : 0, 1);
        }
    }

    /** What is answered behind the 512th call is free, but no call may throw: rule 7. */
    private static void longUse() {
        CopyInserts x = new CopyInserts();
        for (int round = 0; round < 3; round++) {
            for (int i = 0; i < 5000; i++) {
                x.lay(i % 256);
            }
            x.write();
            x.read();
            x.make();
            for (int i = 0; i < 5000; i++) {
                x.poke(i, 104);
                x.put(i % 2, i % 3);
            }
            x.read();
            x.plan();
            x.moved(round);
            x.turn();
        }
        Check.due("OLD is not above 40", x.of(0) <= 40 ? 1 : 0, 1);
    }

    private static void words() throws IOException {
        String source = Files.readString(SOURCE).replaceAll("(?s)/\\*.*?\\*/", " ").replaceAll("//[^\n]*", " ");
        for (String word : FORBIDDEN) {
            boolean letters = Character.isLetter(word.charAt(0));
            String edge = letters && !word.equals("Exact") ? "\\b" : "";
            boolean found = Pattern.compile(edge + Pattern.quote(word) + edge).matcher(source).find();
            Check.due("the word " + word + " stands in the source", found ? 1 : 0, 0);
        }
        Matcher library = Pattern.compile("\\b(System|Arrays|List|ArrayList|String|Object|Math|Integer|Long)\\b\\.?(\\w*)").matcher(source);
        Set<String> allowed = new TreeSet<>(Arrays.asList("Math.max", "Math.min", "Integer.compare"));
        while (library.find()) {
            Check.due("the library's " + library.group(), allowed.contains(library.group()) ? 1 : 0, 1);
        }
    }
}
