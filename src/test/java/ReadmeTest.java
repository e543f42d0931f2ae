import java.lang.reflect.Method;
import java.nio.file.Files;
import java.nio.file.Path;
import java.util.regex.Matcher;
import java.util.regex.Pattern;

/** The calls on README.md answer what it says, all calls of the document are on it, and it says how to run the tests. */
public final class ReadmeTest {
    private static final Path README = Path.of("README.md");
    private static final Path DOC = Path.of("../shared/DOC.md");
    private static final Pattern BLOCK = Pattern.compile("(?s)```java\n(.*?)```");
    private static final Pattern CALL = Pattern.compile("jury\\.(\\w+)\\(([^)]*)\\); *// (-?\\d+|[A-Z]+)(: .*)?");
    private static final Pattern FACE = Pattern.compile("public int (\\w+)\\(([^)]*)\\);");
    private static final String MADE = "PalmJury jury = new PalmJury();";

    private final Due due = new Due("ReadmeTest");
    private PalmJury jury;

    public static void main(String[] args) throws Exception {
        ReadmeTest test = new ReadmeTest();
        String page = Files.readString(README);
        test.blocks(page);
        test.calls(page, Files.readString(DOC));
        test.due.holds("the page says how to run the tests", page.contains("\n.ci/run\n"));
        test.due.holds(".ci/run can be run", Files.isExecutable(Path.of(".ci/run")));
        test.due.close();
    }

    private void blocks(String page) throws Exception {
        Matcher block = BLOCK.matcher(page);
        int many = 0;
        while (block.find()) {
            many++;
            for (String line : block.group(1).split("\n")) {
                if (line.equals(MADE)) {
                    jury = new PalmJury();
                } else {
                    call(line);
                }
            }
        }
        due.holds("there are examples", many > 0);
    }

    private void call(String line) throws Exception {
        Matcher call = CALL.matcher(line);
        boolean isCall = call.matches();
        due.holds("a call and its answer: " + line, isCall && jury != null);
        if (isCall && jury != null) {
            String[] given = call.group(2).isEmpty() ? new String[0] : call.group(2).split(", ");
            Class<?>[] types = new Class<?>[given.length];
            Object[] numbers = new Object[given.length];
            for (int i = 0; i < given.length; i++) {
                types[i] = int.class;
                numbers[i] = number(given[i]);
            }
            Method method = PalmJury.class.getMethod(call.group(1), types);
            due.is(line, (Integer) method.invoke(jury, numbers), number(call.group(3)));
        }
    }

    private static int number(String s) throws Exception {
        return Character.isUpperCase(s.charAt(0)) ? PalmJury.class.getField(s).getInt(null) : Long.decode(s).intValue();
    }

    private void calls(String page, String doc) {
        Matcher face = FACE.matcher(doc);
        int many = 0;
        while (face.find()) {
            many++;
            String row = "\n| `" + face.group(1) + "(" + face.group(2).replace("int ", "") + ")` | ";
            due.is("rows of " + face.group(1), page.split(Pattern.quote(row), -1).length - 1, 1);
        }
        due.is("calls of the face", many, 41);
    }
}
