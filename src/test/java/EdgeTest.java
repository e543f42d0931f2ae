import java.lang.reflect.InvocationTargetException;
import java.lang.reflect.Method;
import java.nio.file.Files;
import java.nio.file.Path;
import java.util.Arrays;
import java.util.Comparator;
import java.util.LinkedHashMap;
import java.util.List;
import java.util.Map;
import java.util.regex.Matcher;
import java.util.regex.Pattern;

/**
 * Runs the tests of edges, each by itself, and looks that each has words of the document that it is for, and that no words
 * of the document that name an edge are without a test.
 */
public final class EdgeTest {
    private static final Path DOC = Path.of("../shared/DOC.md");
    private static final List<Class<?>> EDGES = List.of(RefusalEdges.class, TermEdges.class, ThoughtTermEdges.class, TextEdges.class,
        JurorEdges.class, ThoughtEdges.class, SheetEdges.class, RowEdges.class);
    private static final Pattern NAMES_AN_EDGE = Pattern.compile("\\b(BAD|FULL|NO|NONE|NOTHING|KIND:|INDEX|SIZE|MISSING|FAULT|at most"
        + "|at first|at least|least|most|first|above|below|beyond|behind|up to|no more|held|room|wrap|again|cut|cuts|too|fewer|more"
        + "|missing|nothing|modulo|NUMBER|0|1|\\d+)\\b|\\.\\. ");

    private final Due due = new Due("EdgeTest");
    private final Map<String, String> parts = new LinkedHashMap<>();
    private final Map<String, boolean[]> quoted = new LinkedHashMap<>();
    private int tests = 0;

    public static void main(String[] args) throws Exception {
        EdgeTest test = new EdgeTest();
        test.read(Files.readAllLines(DOC));
        for (Class<?> edges : EDGES) {
            test.runAll(edges);
        }
        test.parts.forEach((at, part) -> test.lookForWordsWithoutTest(at, part));
        System.out.println("EdgeTest: " + test.tests + " tests");
        test.due.close();
    }

    /** Parts the document: "What it is", "Terms 0" (ahead of the first part) to "Terms 5", "Promise 1" to "Promise 42". */
    private void read(List<String> lines) {
        String at = "";
        for (String line : lines) {
            if (line.startsWith("## ")) {
                String head = line.substring(3);
                at = head.equals("Terms") ? "Terms 0" : head.startsWith("Promise ") ? head.substring(0, head.indexOf(':')) : head;
                line = "";
            } else if (line.startsWith("======== ")) {
                at = "Terms " + line.charAt(9);
            }
            boolean said = at.equals("What it is") || at.startsWith("Terms") || at.startsWith("Promise");
            if (said && !line.startsWith("```") && !line.startsWith("Ahead of the calls")) {
                parts.merge(at, line.strip(), (a, b) -> (a + " " + b).strip());
            }
        }
        parts.forEach((name, part) -> quoted.put(name, new boolean[part.length()]));
        due.is("parts of the document", parts.size(), 1 + 6 + 42);
    }

    private void runAll(Class<?> edges) throws IllegalAccessException {
        Method[] methods = edges.getDeclaredMethods();
        Arrays.sort(methods, Comparator.comparing(Method::getName));
        for (Method method : methods) {
            Says says = method.getAnnotation(Says.class);
            if (says != null) {
                tests++;
                quote(says, edges.getName() + "." + method.getName());
                run(method, says.at() + ", " + says.words());
            } else {
                due.holds(method.getName() + " is no test without words", method.getParameterCount() != 1
                    || method.getParameterTypes()[0] != Due.class);
            }
        }
    }

    private void quote(Says says, String test) {
        String part = parts.getOrDefault(says.at(), "");
        int from = part.indexOf(says.words());
        due.holds(test + " is for words of " + says.at(), from >= 0 && !says.words().isEmpty());
        while (from >= 0) {
            Arrays.fill(quoted.get(says.at()), from, from + says.words().length(), true);
            from = part.indexOf(says.words(), from + 1);
        }
    }

    private void run(Method method, String name) throws IllegalAccessException {
        Due own = new Due(name);
        try {
            method.invoke(null, own);
        } catch (InvocationTargetException thrown) {
            System.out.println(name + " threw " + thrown.getCause());
            own.holds("it", false);
        }
        due.holds(name, own.seen() > 0 && !own.failedAlready());
    }

    private void lookForWordsWithoutTest(String at, String part) {
        StringBuilder left = new StringBuilder(part);
        for (int i = 0; i < part.length(); i++) {
            if (quoted.get(at)[i]) {
                left.setCharAt(i, '_');
            }
        }
        // What stands in ` ` is the call itself: its promise's words follow it.
        Matcher edge = NAMES_AN_EDGE.matcher(left.toString().replaceAll("^`[^`]*`:", "").replaceAll("^=+ \\d", ""));
        if (!at.equals("What it is")) {
            due.holds(at + ": words that name an edge without a test: " + left, !edge.find());
        }
    }
}
