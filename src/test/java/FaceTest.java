import java.lang.reflect.Constructor;
import java.lang.reflect.Field;
import java.lang.reflect.Method;
import java.lang.reflect.Modifier;
import java.nio.file.Files;
import java.nio.file.Path;
import java.util.ArrayList;
import java.util.List;
import java.util.TreeSet;
import java.util.regex.Matcher;
import java.util.regex.Pattern;

/** The class has the face of the document, no more and no less, and none of the words that LANGUAGE.md rules out. */
public final class FaceTest {
    private static final Path SOURCE = Path.of("src/main/java/PalmJury.java");
    private static final Path DOC = Path.of("../shared/DOC.md");

    public static void main(String[] args) throws Exception {
        Due due = new Due("FaceTest");
        String doc = Files.readString(DOC);
        String face = doc.substring(doc.indexOf("```java"), doc.indexOf("```", doc.indexOf("```java") + 3));
        due.holds("methods " + methodsOfClass(due) + " are " + methodsOfDoc(face), methodsOfClass(due).equals(methodsOfDoc(face)));
        constants(due, face);
        due.holds("public final", Modifier.isFinal(PalmJury.class.getModifiers()));
        Constructor<?>[] made = PalmJury.class.getDeclaredConstructors();
        due.is("constructors", made.length, 1);
        due.is("its parameters", made[0].getParameterCount(), 0);
        nested(due);
        words(due, code(Files.readString(SOURCE)));
        due.close();
    }

    private static TreeSet<String> methodsOfDoc(String face) {
        TreeSet<String> found = new TreeSet<>();
        Matcher m = Pattern.compile("public int (\\w+)\\(([^)]*)\\)").matcher(face);
        while (m.find()) {
            found.add(m.group(1) + "/" + (m.group(2).isBlank() ? 0 : m.group(2).split(",").length));
        }
        return found;
    }

    private static TreeSet<String> methodsOfClass(Due due) {
        TreeSet<String> open = new TreeSet<>();
        List<String> hidden = new ArrayList<>();
        TreeSet<String> names = new TreeSet<>();
        for (Method m : PalmJury.class.getDeclaredMethods()) {
            if (Modifier.isPrivate(m.getModifiers())) {
                hidden.add(m.getName());
            } else {
                due.holds(m.getName() + " is public, answers an int", Modifier.isPublic(m.getModifiers()) && m.getReturnType() == int.class);
                open.add(m.getName() + "/" + m.getParameterCount());
                names.add(m.getName());
            }
        }
        for (String name : hidden) {
            due.holds(name + " is not the name of a public method too", !names.contains(name));
        }
        return open;
    }

    private static void constants(Due due, String face) throws IllegalAccessException {
        TreeSet<String> told = new TreeSet<>();
        Matcher m = Pattern.compile("([A-Z]+) = (-\\d+)").matcher(face);
        while (m.find()) {
            told.add(m.group(1) + "=" + m.group(2));
        }
        TreeSet<String> found = new TreeSet<>();
        for (Field f : PalmJury.class.getDeclaredFields()) {
            if (!Modifier.isPrivate(f.getModifiers())) {
                due.holds(f.getName() + " is public static final", (f.getModifiers() & 25) == 25);
                found.add(f.getName() + "=" + f.getInt(null));
            }
        }
        due.holds("constants " + found + " are " + told, found.equals(told) && !told.isEmpty());
    }

    private static void nested(Due due) {
        Class<?>[] inside = PalmJury.class.getDeclaredClasses();
        due.holds("at most twelve classes", inside.length < 12);
        for (Class<?> c : inside) {
            int how = c.getModifiers();
            due.holds(c.getName() + " is static and not open", Modifier.isStatic(how) && !Modifier.isPublic(how) && !Modifier.isProtected(how));
            due.holds(c.getName() + " has some twenty fields at most", c.getDeclaredFields().length <= 22);
        }
    }

    private static String code(String source) {
        return source.replaceAll("(?s)/\\*.*?\\*/", " ").replaceAll("//[^\n]*", " ").replaceAll("\"[^\"\n]*\"", "\"\"");
    }

    private static void words(Due due, String code) {
        String[] ruledOut = {"throw", "throws", "try", "catch", "synchronized", "assert", "import", "package", "double", "float",
            "Exact", "Object", "System\\.(?!arraycopy)", "static \\{", "->", "::", "hashCode", "toString", "Exception",
            "(Integer|Long|Math)\\.(?![a-z])"};
        for (String word : ruledOut) {
            boolean letters = Character.isLetter(word.charAt(0)) && Character.isLetter(word.charAt(word.length() - 1));
            Pattern p = Pattern.compile(letters && !word.equals("Exact") && !word.equals("Exception") ? "\\b" + word + "\\b" : word);
            due.holds("no " + word, !p.matcher(code).find());
        }
    }
}
