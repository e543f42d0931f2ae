import java.lang.reflect.Method;
import java.util.Arrays;
import java.util.Comparator;
import java.util.HashMap;
import java.util.List;
import java.util.Map;
import java.util.Random;

/** Long runs of calls, by a lot whose seed is fixed: PalmJury and the model answer alike. */
public final class ModelTest {
    // An object answers 512 calls: a step of a run, which is begun below CALLS, takes up to some 70.
    private static final int RUNS = 1700, CALLS = 440;
    private static final int[] EDGES = {Integer.MIN_VALUE, Integer.MAX_VALUE, -2, -1, 0, 1, 24, 25, 60, 61, 100, 101, PalmJury.NONE};

    private final Due due = new Due("ModelTest");
    private final Map<String, Method> methods = new HashMap<>();
    private final Map<String, Integer> served = new HashMap<>();
    private final String[] names;
    private Random lot;
    private PalmJury jury;
    private Model model;
    private int calls;

    private ModelTest() {
        for (Method m : PalmJury.class.getDeclaredMethods()) {
            if (java.lang.reflect.Modifier.isPublic(m.getModifiers())) {
                methods.put(m.getName(), m);
            }
        }
        names = methods.keySet().stream().sorted(Comparator.naturalOrder()).toArray(String[]::new);
    }

    public static void main(String[] args) throws Exception {
        ModelTest test = new ModelTest();
        for (int run = 0; run < RUNS && !test.due.failedAlready(); run++) {
            test.run(run);
        }
        for (String name : test.names) {
            int answered = test.served.getOrDefault(name, 0);
            test.due.holds(name + " was not refused now and then (" + answered + ")", answered > 100);
        }
        test.due.close();
    }

    private void run(int run) throws Exception {
        lot = new Random(run);
        jury = new PalmJury();
        model = new Model();
        calls = 0;
        if (run % 5 == 1) {
            nearLastHour();
        }
        while (calls < CALLS && !due.failedAlready()) {
            switch (lot.nextInt(12)) {
                case 0: text(); break;
                case 1: check(); break;
                case 2: jurors(); break;
                case 3: slots(); break;
                case 4: sheets(); break;
                default: any();
            }
        }
    }

    private int ask(String name, int... v) throws Exception {
        calls++;
        Object[] given = Arrays.stream(v).boxed().toArray();
        int got = (Integer) methods.get(name).invoke(jury, given);
        int want = model.call(name, v);
        due.is("call " + calls + " " + name + Arrays.toString(v), got, want);
        if (want > PalmJury.BAD || want < PalmJury.SIZE) {
            served.merge(name, 1, Integer::sum);
        }
        return want;
    }

    private void nearLastHour() throws Exception {
        for (int i = 0; i < 99; i++) {
            ask("hours", 100);
        }
        ask("hours", 60 + lot.nextInt(40));
    }

    private void any() throws Exception {
        String name = names[lot.nextInt(names.length)];
        int many = methods.get(name).getParameterCount();
        int[] v = new int[many];
        for (int i = 0; i < many; i++) {
            v[i] = value(name, i);
        }
        if (name.equals("seed") && lot.nextBoolean()) {
            v[0] = lot.nextInt();
        }
        ask(name, v);
    }

    private int value(String name, int place) {
        if (lot.nextInt(25) == 0) {
            return EDGES[lot.nextInt(EDGES.length)];
        }
        switch (name + place) {
            case "weigh1": return lot.nextInt(104) - 52;
            case "rule1": return lot.nextInt(4) == 0 ? lot.nextInt(104) - 1 : lot.nextInt(12);
            case "juror2": return lot.nextInt(43) - 1;
            case "set2": return lot.nextInt(5) == 0 ? lot.nextInt(260) - 2 : lot.nextInt(42);
            case "hours0": return lot.nextInt(8) == 0 ? lot.nextInt(103) : 1 + lot.nextInt(3);
            case "behind0": case "sure0": case "tipped0": case "bestTurn0": case "advocate0":
                return lot.nextInt(8) == 0 ? lot.nextInt(103) : lot.nextInt(7);
            case "feed0": case "feed1": case "feed2": return lot.nextInt();
            case "mark0": case "pour0": case "reads0": case "weighed0": case "copy0": case "copy2": case "sheet0":
                return lot.nextInt(9) / 2;
            case "mark2": return lot.nextInt(9) == 0 ? PalmJury.NONE : lot.nextInt(3) == 0 ? lot.nextInt(200200) - 100100 : lot.nextInt(160) - 60;
            case "sheet1": return lot.nextInt(8) / 3 - (lot.nextInt(12) == 0 ? 1 : 0);
            case "sheet2": return lot.nextInt(27) - 1;
            case "lay1": return lot.nextInt(5);
            case "told1": case "count0": return lot.nextInt(11);
            case "trim0": return lot.nextInt(100);
            case "tell0": return lot.nextInt(60);
            default: return lot.nextInt(12) - 1;
        }
    }

    private void jurors() throws Exception {
        ask("deal", 1 + lot.nextInt(3));
        ask("weigh", lot.nextInt(8), lot.nextInt(101) - 50);
        ask("set", lot.nextInt(10), 2, lot.nextInt(256));
        ask("rule", 1, lot.nextInt(20));
    }

    private void slots() throws Exception {
        int slot = lot.nextInt(5);
        ask("lay", slot, lot.nextInt(4), lot.nextInt(3) == 0 ? lot.nextInt() : lot.nextInt(4));
        for (int i = 0; i < 3; i++) {
            ask("ask", slot, lot.nextInt(6));
            ask("item", slot, lot.nextInt(24));
            ask("rest", slot, lot.nextInt(9) - 4);
            any();
        }
    }

    private void sheets() throws Exception {
        int sheet = lot.nextInt(4);
        int places = lot.nextInt(25);
        ask("sheet", sheet, lot.nextInt(2), places);
        for (int i = 0; i < 6; i++) {
            ask("mark", sheet, lot.nextInt(places + 1), value("mark", 2));
        }
        ask("weighed", sheet, lot.nextInt(2));
        ask("copy", sheet, lot.nextInt(places + 1), lot.nextInt(3) == 0 ? lot.nextInt(4) : sheet, lot.nextInt(places + 1), lot.nextInt(6) - 1);
        ask("reads", sheet);
        for (int i = 0; i < Math.min(places, 10) && lot.nextInt(20) != 0; i++) {
            ask("mark", sheet, i, model.now.people.size() > i && model.now.guilty(model.now.people.get(i)) ? 1 : 0);
        }
        ask("reads", sheet);
        ask("pour", sheet);
    }

    /** Feeds a text, often a right one, sometimes with a byte spoilt. */
    private void text() throws Exception {
        ask("trim", 0);
        String key = List.of("trust", "fee", "fine").get(lot.nextInt(3));
        StringBuilder s = new StringBuilder(blanks() + key + (lot.nextInt(9) == 0 ? "" : " ") + blanks());
        expression(s, key, 3);
        if (lot.nextInt(6) == 0) {
            deep(s);
        }
        s.append(blanks());
        s.setLength(Math.min(s.length(), 96));
        if (lot.nextInt(3) == 0) {
            s.setCharAt(lot.nextInt(s.length()), spoilt());
        }
        int length = s.length();
        while (s.length() % 12 != 0) {
            s.append(' ');
        }
        for (int i = 0; i < s.length(); i += 12) {
            ask("feed", four(s, i), four(s, i + 4), four(s, i + 8));
        }
        ask("trim", length);
        ask("text");
        ask("why", lot.nextInt(3));
        ask("textTold", lot.nextInt(6), lot.nextInt(2));
        ask("fee");
        ask("fine", lot.nextInt(4));
        ask("told", lot.nextInt(4), 5);
    }

    private char spoilt() {
        return lot.nextBoolean() ? "()!|&<=>+-*/09azkwdhspb ".charAt(lot.nextInt(24)) : (char) lot.nextInt(256);
    }

    private void deep(StringBuilder s) {
        s.append(lot.nextBoolean() ? "+" : "");
        int many = lot.nextInt(22);
        int open = 0;
        for (int i = 0; i < many; i++) {
            boolean paren = lot.nextBoolean();
            s.append(paren ? '(' : '!');
            open += paren ? 1 : 0;
        }
        s.append('7');
        for (int i = 0; i < open; i++) {
            s.append(')');
        }
    }

    private void expression(StringBuilder s, String key, int depth) {
        int parts = 1 + lot.nextInt(3);
        for (int i = 0; i < parts; i++) {
            if (i > 0) {
                s.append(blanks()).append("|&<=>+-*/+-*/".charAt(lot.nextInt(13))).append(blanks());
            }
            int sort = lot.nextInt(8);
            if (sort == 0 && depth > 0) {
                s.append('(').append(blanks());
                expression(s, key, depth - 1);
                s.append(blanks()).append(')');
            } else if (sort == 1) {
                s.append('!').append(lot.nextInt(3));
            } else if (sort < 5) {
                s.append(lot.nextInt(lot.nextInt(20) == 0 ? 100000 : 101));
            } else {
                String of = key.equals("trust") ? "kwd" : key.equals("fee") ? "hs" : "pb";
                s.append(lot.nextInt(30) == 0 ? 'x' : of.charAt(lot.nextInt(of.length())));
            }
        }
    }

    private String blanks() {
        return " ".repeat(lot.nextInt(5) / 3);
    }

    private static int four(StringBuilder s, int i) {
        return s.charAt(i) << 24 | s.charAt(i + 1) << 16 | s.charAt(i + 2) << 8 | s.charAt(i + 3);
    }

    /** Says the hours of the image, mostly rightly, and has them checked. */
    private void check() throws Exception {
        if (model.image == null || lot.nextInt(3) == 0) {
            ask(lot.nextInt(4) == 0 ? "back" : "keep");
        }
        if (lot.nextInt(4) != 0) {
            ask("check", 1);
        }
        if (model.image == null) {
            return;
        }
        int n = 1 + lot.nextInt(lot.nextInt(6) == 0 ? 30 : 5);
        int spoilt = lot.nextInt(3) == 0 ? lot.nextInt(2 * n) : -1;
        Model.Court c = model.image.twin();
        for (int i = 0; i < n && c.hour < 9999; i++) {
            c.hour(null);
            ask("tell", c.known() + (spoilt == 2 * i ? 1 : 0));
            ask("tell", c.votes() + (spoilt == 2 * i + 1 ? 1 : 0));
        }
        ask("check", n + (lot.nextInt(5) == 0 ? lot.nextInt(3) - 1 : 0));
    }
}
