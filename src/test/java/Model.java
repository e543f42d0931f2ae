import java.util.ArrayList;
import java.util.Arrays;
import java.util.HashMap;
import java.util.List;
import java.util.Map;
import java.util.TreeSet;
import java.util.function.ToIntFunction;

/**
 * The document once more, written as far from PalmJury as it goes (kinds that override one another, sets, trees,
 * refusals that are thrown), so that a slip in one of the two shows when both are asked the same.
 */
final class Model {
    static final int BAD = -1000000001, NO = -1000000002, FULL = -1000000003, NONE = -1000000005, NOTHING = -1000000011,
        KIND = -1000000012, INDEX = -1000000013, SIZE = -1000000014;

    static final class Refused extends RuntimeException {
        private static final long serialVersionUID = 1L;
        final int answer;

        Refused(int answer) {
            super(null, null, false, false);
            this.answer = answer;
        }
    }

    static void need(boolean holds, int answer) {
        if (!holds) {
            throw new Refused(answer);
        }
    }

    static boolean in(int v, int a, int b) {
        return a <= v && v <= b;
    }

    // ---- kinds

    static class Person {
        int side;
        int doubt;
        int passed;
        TreeSet<Integer> knows = new TreeSet<>();

        int believes(Court c) {
            return Math.min(100, Math.max(0, c.trust(this)));
        }

        Integer tells(Court c, Person other) {
            for (int f : knows) {
                if (!other.knows.contains(f)) {
                    return f;
                }
            }
            return null;
        }

        int worth() {
            return doubt;
        }
    }

    static class Doubting extends Person {
        @Override int believes(Court c) {
            return Math.max(0, super.believes(c) - doubt);
        }

        @Override Integer tells(Court c, Person other) {
            for (int f : knows.descendingSet()) {
                if (!other.knows.contains(f)) {
                    return f;
                }
            }
            return null;
        }

        @Override int worth() {
            return super.worth() + 5;
        }
    }

    static final class Foreman extends Doubting {
        @Override int believes(Court c) {
            return (super.believes(c) + 50) / 2;
        }

        @Override int worth() {
            return 2 * super.worth();
        }
    }

    static class Swayed extends Person {
        @Override int believes(Court c) {
            int plain = super.believes(c);
            return plain > 50 ? Math.min(100, plain + 10) : plain < 50 ? Math.max(0, plain - 10) : 50;
        }

        @Override Integer tells(Court c, Person other) {
            for (int f : knows) {
                if (!other.knows.contains(f) && c.weights[f] > 0) {
                    return f;
                }
            }
            return null;
        }

        @Override int worth() {
            return 99 - doubt;
        }
    }

    static final class Twin extends Swayed {
        @Override int believes(Court c) {
            return 100 - super.believes(c);
        }

        @Override int worth() {
            return super.worth() - 7;
        }
    }

    static final class Mute extends Person {
        @Override Integer tells(Court c, Person other) {
            return null;
        }

        @Override int worth() {
            return 2;
        }
    }

    private static final List<Class<? extends Person>> KINDS =
        List.of(Person.class, Doubting.class, Swayed.class, Foreman.class, Twin.class, Mute.class);

    static Person made(int kind) {
        switch (kind) {
            case 0: return new Person();
            case 1: return new Doubting();
            case 2: return new Swayed();
            case 3: return new Foreman();
            case 4: return new Twin();
            default: return new Mute();
        }
    }

    static Person alike(Person p, int kind) {
        Person q = made(kind);
        q.side = p.side;
        q.doubt = p.doubt;
        q.passed = p.passed;
        q.knows = new TreeSet<>(p.knows);
        return q;
    }

    static int kindOf(Person p) {
        return KINDS.indexOf(p.getClass());
    }

    static int bits(Iterable<Integer> set) {
        int all = 0;
        for (int i : set) {
            all += 1 << i;
        }
        return all;
    }

    static TreeSet<Integer> setOf(int bits) {
        TreeSet<Integer> s = new TreeSet<>();
        for (int i = 0; i < 8; i++) {
            if ((bits & 1 << i) != 0) {
                s.add(i);
            }
        }
        return s;
    }

    // ---- all that an image keeps

    static final class Court {
        List<Person> people = new ArrayList<>();
        int[] weights = new int[8];
        List<Text> texts = new ArrayList<>();
        int bar = 50;
        int slip = 10;
        int turn = 0;
        int slips = 0;
        int hour = 0;
        int z = 1;

        Court twin() {
            Court c = new Court();
            for (Person p : people) {
                c.people.add(alike(p, kindOf(p)));
            }
            c.weights = weights.clone();
            c.texts = new ArrayList<>(texts);
            c.bar = bar;
            c.slip = slip;
            c.turn = turn;
            c.slips = slips;
            c.hour = hour;
            c.z = z;
            return c;
        }

        Integer counting(String key) {
            for (int i = texts.size() - 1; i >= 0; i--) {
                if (texts.get(i).key.equals(key)) {
                    return i;
                }
            }
            return null;
        }

        int worked(String key, int otherwise, Map<String, Integer> names) {
            Integer i = counting(key);
            return i == null ? otherwise : texts.get(i).tree.applyAsInt(names);
        }

        int trust(Person p) {
            int sum = p.knows.stream().mapToInt(f -> weights[f]).sum();
            return worked("trust", 50 + sum, Map.of("k", p.knows.size(), "w", sum, "d", p.doubt));
        }

        int draw(int by) {
            z = z * 1103515245 + 12345;
            return (z >>> 8) % by;
        }

        int partner(int i) {
            int n = people.size();
            return (((hour + turn - i) % n) + n) % n;
        }

        boolean guilty(Person p) {
            return p.believes(this) >= bar;
        }

        int votes() {
            return (int) people.stream().filter(this::guilty).count();
        }

        int known() {
            return people.stream().mapToInt(p -> p.knows.size()).sum();
        }

        TreeSet<Integer> common() {
            TreeSet<Integer> s = setOf(255);
            people.forEach(p -> s.retainAll(p.knows));
            return s;
        }

        TreeSet<Integer> any() {
            TreeSet<Integer> s = new TreeSet<>();
            people.forEach(p -> s.addAll(p.knows));
            return s;
        }

        int comesOut(int fact, int way) {
            int n = 0;
            for (Person p : people) {
                if (p.side == way && p.knows.add(fact)) {
                    n++;
                }
            }
            return n;
        }

        int hour(Person silent) {
            int told = 0;
            boolean[] met = new boolean[people.size()];
            for (int i = 0; i < people.size(); i++) {
                int j = partner(i);
                if (j == i || met[i]) {
                    continue;
                }
                met[i] = true;
                met[j] = true;
                if (draw(100) < slip) {
                    slips++;
                    continue;
                }
                Person a = people.get(i);
                Person b = people.get(j);
                Integer x = a == silent ? null : a.tells(this, b);
                Integer y = b == silent ? null : b.tells(this, a);
                if (x != null) {
                    b.knows.add(x);
                    a.passed++;
                    told++;
                }
                if (y != null) {
                    a.knows.add(y);
                    b.passed++;
                    told++;
                }
            }
            hour++;
            return told;
        }

        Court later(int n, int silent) {
            Court c = twin();
            for (int i = 0; i < n; i++) {
                c.hour(silent < 0 ? null : c.people.get(silent));
            }
            return c;
        }
    }

    // ---- texts

    static final class Text {
        String key;
        int leaves;
        ToIntFunction<Map<String, Integer>> tree;
    }

    static final class Fault extends RuntimeException {
        private static final long serialVersionUID = 1L;
        final int place;

        Fault(int place) {
            super(null, null, false, false);
            this.place = place;
        }
    }

    static final class Parser {
        final List<String> words = new ArrayList<>();
        final List<Integer> places = new ArrayList<>();
        final Text text = new Text();
        int at = 0;
        int parens = 0;
        int bangs = 0;

        Parser(String tape) {
            int i = 0;
            while (i < tape.length()) {
                char c = tape.charAt(i);
                if (c == ' ') {
                    i++;
                    continue;
                }
                int j = i + 1;
                if (letter(c)) {
                    while (j < tape.length() && letter(tape.charAt(j))) {
                        j++;
                    }
                } else if (digit(c)) {
                    while (j < tape.length() && digit(tape.charAt(j))) {
                        j++;
                    }
                }
                boolean word = letter(c) || digit(c);
                boolean lacks = word && i > 0 && (letter(tape.charAt(i - 1)) || digit(tape.charAt(i - 1)));
                words.add(lacks ? "lacks a blank" : tape.substring(i, j));
                places.add(i);
                i = j;
            }
            words.add("end");
            places.add(tape.length());
            // The mark of the end is no word of a tape that ends: a tape with the word end in it has that word earlier.
            ending = words.size() - 1;
        }

        final int ending;

        static boolean letter(char c) {
            return c >= 'a' && c <= 'z';
        }

        static boolean digit(char c) {
            return c >= '0' && c <= '9';
        }

        String word() {
            return at == ending ? "" : words.get(at);
        }

        Fault fault() {
            return new Fault(places.get(at));
        }

        Text parse() {
            if (!List.of("trust", "fee", "fine").contains(word())) {
                throw fault();
            }
            text.key = word();
            at++;
            text.tree = or();
            if (at != ending) {
                throw fault();
            }
            return text;
        }

        ToIntFunction<Map<String, Integer>> or() {
            ToIntFunction<Map<String, Integer>> left = and();
            while (word().equals("|")) {
                at++;
                ToIntFunction<Map<String, Integer>> a = left;
                ToIntFunction<Map<String, Integer>> b = and();
                left = m -> a.applyAsInt(m) != 0 | b.applyAsInt(m) != 0 ? 1 : 0;
            }
            return left;
        }

        ToIntFunction<Map<String, Integer>> and() {
            ToIntFunction<Map<String, Integer>> left = test();
            while (word().equals("&")) {
                at++;
                ToIntFunction<Map<String, Integer>> a = left;
                ToIntFunction<Map<String, Integer>> b = test();
                left = m -> a.applyAsInt(m) != 0 & b.applyAsInt(m) != 0 ? 1 : 0;
            }
            return left;
        }

        ToIntFunction<Map<String, Integer>> test() {
            ToIntFunction<Map<String, Integer>> a = sum();
            String sign = word();
            if (!List.of("<", "=", ">").contains(sign)) {
                return a;
            }
            at++;
            ToIntFunction<Map<String, Integer>> b = sum();
            int wanted = sign.equals("<") ? -1 : sign.equals("=") ? 0 : 1;
            return m -> Integer.compare(a.applyAsInt(m), b.applyAsInt(m)) == wanted ? 1 : 0;
        }

        ToIntFunction<Map<String, Integer>> sum() {
            ToIntFunction<Map<String, Integer>> left = term();
            while (List.of("+", "-").contains(word())) {
                boolean plus = word().equals("+");
                at++;
                ToIntFunction<Map<String, Integer>> a = left;
                ToIntFunction<Map<String, Integer>> b = term();
                left = m -> plus ? a.applyAsInt(m) + b.applyAsInt(m) : a.applyAsInt(m) - b.applyAsInt(m);
            }
            return left;
        }

        ToIntFunction<Map<String, Integer>> term() {
            ToIntFunction<Map<String, Integer>> left = piece();
            while (List.of("*", "/").contains(word())) {
                boolean times = word().equals("*");
                at++;
                ToIntFunction<Map<String, Integer>> a = left;
                ToIntFunction<Map<String, Integer>> b = piece();
                left = m -> {
                    int x = a.applyAsInt(m);
                    int y = b.applyAsInt(m);
                    return times ? x * y : y == 0 ? 0 : x / y;
                };
            }
            return left;
        }

        ToIntFunction<Map<String, Integer>> piece() {
            String w = word();
            if (w.matches("[0-9]{1,4}")) {
                at++;
                text.leaves++;
                int v = Integer.parseInt(w);
                return m -> v;
            }
            if (Map.of("trust", List.of("k", "w", "d"), "fee", List.of("h", "s"), "fine", List.of("p", "b")).get(text.key).contains(w)) {
                at++;
                text.leaves++;
                return m -> m.get(w);
            }
            if (w.equals("!") && bangs < 8) {
                at++;
                bangs++;
                ToIntFunction<Map<String, Integer>> a = piece();
                bangs--;
                return m -> a.applyAsInt(m) == 0 ? 1 : 0;
            }
            if (w.equals("(") && parens < 8) {
                at++;
                parens++;
                ToIntFunction<Map<String, Integer>> a = or();
                if (!word().equals(")")) {
                    throw fault();
                }
                at++;
                parens--;
                return a;
            }
            throw fault();
        }
    }

    // ---- state

    Court now = new Court();
    Court image = null;
    final StringBuilder tape = new StringBuilder();
    final List<Integer> waiting = new ArrayList<>();
    /** Short[] or Float[] (null in it: no number), or null. */
    final Object[][] sheets = new Object[4][];
    /** null, a Person, an Object[] of a sheet, or an Integer. */
    final Object[] slots = new Object[5];

    Person person(int i) {
        need(in(i, 0, now.people.size() - 1), BAD);
        return now.people.get(i);
    }

    Object[] sheetAt(int i) {
        need(in(i, 0, 3), BAD);
        need(sheets[i] != null, NOTHING);
        return sheets[i];
    }

    static Integer number(Object[] row, int place) {
        return row[place] == null ? null : (Integer) ((Number) row[place]).intValue();
    }

    /** The answer to a call by its name. */
    int call(String name, int... v) {
        try {
            switch (name) {
                case "juror": case "told": case "tells": case "as": case "turns": case "set": case "weigh": case "rule":
                case "deal": case "seed": return jurors(name, v);
                case "feed": case "trim": case "text": case "textTold": case "why": return texts(name, v);
                case "sheet": case "mark": case "pour": case "reads": case "copy": case "weighed": return sheets(name, v);
                case "lay": case "ask": case "item": case "rest": return slots(name, v);
                case "tell": case "check": case "keep": case "back": case "count": return rows(name, v);
                default: return hours(name, v);
            }
        } catch (Refused r) {
            return r.answer;
        }
    }

    int jurors(String name, int[] v) {
        switch (name) {
            case "juror": {
                need(in(v[0], 0, 5) && in(v[1], 0, 1) && in(v[2], 0, 40), BAD);
                need(now.people.size() < 10, FULL);
                Person p = made(v[0]);
                p.side = v[1];
                p.doubt = v[2];
                now.people.add(p);
                return now.people.size() - 1;
            }
            case "told": {
                Person p = person(v[0]);
                need(in(v[1], 0, 8), BAD);
                List<Integer> all = List.of(kindOf(p), p.side, bits(p.knows), p.doubt, p.passed, p.believes(now),
                    now.guilty(p) ? 1 : 0, now.partner(v[0]), p.worth());
                return all.get(v[1]);
            }
            case "tells": {
                Person a = person(v[0]);
                Person b = person(v[1]);
                need(a != b, BAD);
                Integer f = a.tells(now, b);
                need(f != null, NONE);
                return f;
            }
            case "as": {
                Person p = person(v[0]);
                need(in(v[1], 0, 5), BAD);
                need(KINDS.get(v[1]).isInstance(p), KIND);
                return p.doubt;
            }
            case "turns": {
                Person p = person(v[0]);
                need(in(v[1], 0, 5), BAD);
                now.people.set(v[0], alike(p, v[1]));
                return kindOf(p);
            }
            case "set": return change(person(v[0]), v[1], v[2]);
            case "weigh": {
                need(in(v[0], 0, 7) && in(v[1], -50, 50), BAD);
                int was = now.weights[v[0]];
                now.weights[v[0]] = v[1];
                return was;
            }
            case "rule": {
                need(in(v[0], 0, 2) && in(v[1], 0, v[0] == 2 ? 9 : 100), BAD);
                int was = List.of(now.bar, now.slip, now.turn).get(v[0]);
                now.bar = v[0] == 0 ? v[1] : now.bar;
                now.slip = v[0] == 1 ? v[1] : now.slip;
                now.turn = v[0] == 2 ? v[1] : now.turn;
                return was;
            }
            case "deal": {
                need(in(v[0], 1, 10), BAD);
                int came = 0;
                while (came < v[0] && now.people.size() < 10) {
                    Person p = made(now.draw(6));
                    p.side = now.draw(2);
                    p.knows = setOf(now.draw(256));
                    p.doubt = now.draw(30);
                    now.people.add(p);
                    came++;
                }
                return came;
            }
            default: {
                int was = now.z;
                now.z = v[0];
                return was;
            }
        }
    }

    static int change(Person p, int what, int v) {
        need(in(what, 1, 3) && in(v, 0, what == 1 ? 1 : what == 2 ? 255 : 40), BAD);
        int was = what == 1 ? p.side : what == 2 ? bits(p.knows) : p.doubt;
        if (what == 1) {
            p.side = v;
        } else if (what == 2) {
            p.knows = setOf(v);
        } else {
            p.doubt = v;
        }
        return was;
    }

    int hours(String name, int[] v) {
        switch (name) {
            case "out":
                need(in(v[0], 0, 7) && in(v[1], 0, 1), BAD);
                return now.comesOut(v[0], v[1]);
            case "hours": {
                need(in(v[0], 1, 100), BAD);
                int told = 0;
                for (int i = 0; i < v[0] && now.hour < 9999; i++) {
                    told += now.hour(null);
                }
                return told;
            }
            case "jury":
                need(in(v[0], 0, 4), BAD);
                return List.of(bits(now.common()), now.votes(), now.slips, now.known(), bits(now.any())).get(v[0]);
            case "behind": {
                need(in(v[0], 0, 100) && v[1] >= 0 && v[1] < 3 + now.people.size(), BAD);
                Court c = now.later(v[0], -1);
                return v[1] == 0 ? bits(c.common()) : v[1] == 1 ? c.votes() : v[1] == 2 ? c.slips : bits(c.people.get(v[1] - 3).knows);
            }
            case "allKnow": {
                Court c = now.twin();
                for (int n = 0; n <= 200; n++) {
                    if (c.people.stream().allMatch(p -> p.knows.containsAll(now.any()))) {
                        return n;
                    }
                    c.hour(null);
                }
                return NONE;
            }
            case "bestTurn": return bestTurn(v[0], v[1]);
            case "sure": {
                need(in(v[0], 1, 60), BAD);
                TreeSet<Integer> s = now.later(v[0], -1).common();
                for (int i = 0; i < now.people.size(); i++) {
                    s.retainAll(now.later(v[0], i).common());
                }
                return bits(s);
            }
            case "advocate": return advocate(v[0], v[1]);
            case "tipped": {
                need(in(v[0], 1, 60), BAD);
                int set = 0;
                for (int i = 0; i < now.people.size(); i++) {
                    set += now.later(v[0], i).votes() == now.later(v[0], -1).votes() ? 0 : 1 << i;
                }
                return set;
            }
            case "fee": return now.worked("fee", now.slips, Map.of("h", now.hour, "s", now.slips));
            case "fine": {
                Person p = person(v[0]);
                return now.worked("fine", p.passed, Map.of("p", p.passed, "b", p.doubt));
            }
            default: throw new IllegalStateException(name);
        }
    }

    int bestTurn(int n, int what) {
        need(in(n, 1, 60) && in(what, 0, 1), BAD);
        int[] known = new int[10];
        for (int t = 0; t < 10; t++) {
            Court c = now.twin();
            c.turn = t;
            known[t] = c.later(n, -1).known();
        }
        return first(known, Arrays.stream(known).max().getAsInt(), what);
    }

    int advocate(int n, int what) {
        need(in(n, 0, 60) && in(what, 0, 1), BAD);
        int[] votes = new int[16];
        for (int i = 0; i < 16; i++) {
            Court c = now.twin();
            c.comesOut(i >> 1, i & 1);
            votes[i] = c.later(n, -1).votes();
        }
        return first(votes, Arrays.stream(votes).max().getAsInt(), what);
    }

    static int first(int[] row, int wanted, int what) {
        int i = 0;
        while (row[i] != wanted) {
            i++;
        }
        return what == 0 ? i : wanted;
    }

    int texts(String name, int[] v) {
        switch (name) {
            case "feed":
                need(tape.length() + 12 <= 96, FULL);
                for (int four : v) {
                    for (int i = 3; i >= 0; i--) {
                        tape.append((char) (four >> 8 * i & 255));
                    }
                }
                return tape.length();
            case "trim":
                need(in(v[0], 0, tape.length()), BAD);
                tape.setLength(v[0]);
                return v[0];
            case "text": {
                String all = tape.toString();
                tape.setLength(0);
                Text t;
                try {
                    t = new Parser(all).parse();
                } catch (Fault f) {
                    return -100 - f.place;
                }
                need(now.texts.size() < 14, FULL);
                now.texts.add(t);
                return now.texts.size() - 1;
            }
            case "textTold": {
                need(in(v[0], 0, now.texts.size() - 1) && in(v[1], 0, 1), BAD);
                Text t = now.texts.get(v[0]);
                return v[1] == 1 ? t.leaves : List.of("trust", "fee", "fine").indexOf(t.key);
            }
            default: {
                need(in(v[0], 0, 2), BAD);
                Integer i = now.counting(List.of("trust", "fee", "fine").get(v[0]));
                need(i != null, NONE);
                return i;
            }
        }
    }

    int sheets(String name, int[] v) {
        switch (name) {
            case "sheet": {
                need(in(v[0], 0, 3) && in(v[1], -1, 1), BAD);
                if (v[1] == -1) {
                    sheets[v[0]] = null;
                    return 0;
                }
                need(v[2] <= 24, BAD);
                need(v[2] >= 0, SIZE);
                Object[] row = v[1] == 0 ? new Short[v[2]] : new Float[v[2]];
                Arrays.fill(row, v[1] == 0 ? (Object) (short) 0 : (Object) 0f);
                sheets[v[0]] = row;
                return v[2];
            }
            case "mark": {
                Object[] row = sheetAt(v[0]);
                need(in(v[1], 0, row.length - 1), INDEX);
                if (row instanceof Short[]) {
                    need(v[2] != NONE, KIND);
                    row[v[1]] = (short) v[2];
                } else {
                    need(v[2] == NONE || in(v[2], -99999, 99999), BAD);
                    row[v[1]] = v[2] == NONE ? null : (Float) (float) v[2];
                }
                return 1;
            }
            case "pour": {
                Object[] row = sheetAt(v[0]);
                int[] was = now.weights.clone();
                int other = 0;
                for (int i = 0; i < Math.min(8, row.length); i++) {
                    Integer x = number(row, i);
                    now.weights[i] = x == null ? was[i] : x > 50 ? 50 : x < -50 ? -50 : x;
                    other += was[i] == now.weights[i] ? 0 : 1;
                }
                return other;
            }
            case "reads": {
                Object[] row = sheetAt(v[0]);
                for (int i = 0; i < row.length; i++) {
                    Integer x = number(row, i);
                    if (x != null && (i >= now.people.size() || x != (now.guilty(now.people.get(i)) ? 1 : 0))) {
                        return i;
                    }
                }
                return NONE;
            }
            case "copy": {
                need(in(v[0], 0, 3) && in(v[2], 0, 3), BAD);
                Object[] a = sheetAt(v[0]);
                Object[] b = sheetAt(v[2]);
                need(a.getClass() == b.getClass(), KIND);
                need(v[1] >= 0 && v[3] >= 0 && v[4] >= 0 && (long) v[1] + v[4] <= a.length && (long) v[3] + v[4] <= b.length, INDEX);
                Object[] was = a.clone();
                for (int i = 0; i < v[4]; i++) {
                    b[v[3] + i] = was[v[1] + i];
                }
                return v[4];
            }
            default: return weighed(v[0], v[1]);
        }
    }

    int weighed(int sheet, int what) {
        need(in(sheet, 0, 3) && in(what, 0, 1), BAD);
        Object[] row = sheetAt(sheet);
        int[] sums = new int[8];
        for (int f = 0; f < 8; f++) {
            Court c = now.twin();
            c.weights[f] = Math.min(50, c.weights[f] + 20);
            for (int i = 0; i < row.length; i++) {
                Integer x = number(row, i);
                int b = i < c.people.size() ? c.people.get(i).believes(c) : 0;
                sums[f] += x == null ? 0 : Math.abs(b - x);
            }
        }
        return first(sums, Arrays.stream(sums).min().getAsInt(), what);
    }

    int slots(String name, int[] v) {
        need(in(v[0], 0, 4), BAD);
        Object held = slots[v[0]];
        switch (name) {
            case "lay": {
                need(in(v[1], 0, 3), BAD);
                Object comes = null;
                if (v[1] == 1) {
                    Person p = person(v[2]);
                    comes = alike(p, kindOf(p));
                } else if (v[1] == 2) {
                    comes = sheetAt(v[2]).clone();
                } else if (v[1] == 3) {
                    comes = v[2];
                }
                slots[v[0]] = comes;
                return held == null ? 0 : held instanceof Person ? 1 : held instanceof Object[] ? 2 : 3;
            }
            case "ask":
                need(in(v[1], 0, 5), BAD);
                need(held != null, NOTHING);
                need(KINDS.get(v[1]).isInstance(held), KIND);
                return ((Person) held).worth();
            case "item": {
                need(held != null, NOTHING);
                need(held instanceof Object[], KIND);
                Object[] row = (Object[]) held;
                need(in(v[1], 0, row.length - 1), INDEX);
                need(row[v[1]] != null, KIND);
                return number(row, v[1]);
            }
            default:
                need(held != null, NOTHING);
                need(held instanceof Integer, KIND);
                need(v[1] != 0, NO);
                return (Integer) held % v[1];
        }
    }

    int rows(String name, int[] v) {
        switch (name) {
            case "tell":
                need(waiting.size() < 60, FULL);
                waiting.add(v[0]);
                return waiting.size();
            case "check": {
                List<Integer> said = new ArrayList<>(waiting);
                waiting.clear();
                need(in(v[0], 1, 30), BAD);
                need(image != null, NO);
                List<Integer> wanted = new ArrayList<>();
                Court c = image.twin();
                for (int i = 0; i < v[0] && c.hour < 9999; i++) {
                    c.hour(null);
                    wanted.add(c.known());
                    wanted.add(c.votes());
                }
                int i = 0;
                while (i < said.size() && i < wanted.size() && said.get(i).equals(wanted.get(i))) {
                    i++;
                }
                return said.equals(wanted) ? 0 : 1 + i;
            }
            case "keep":
                image = now.twin();
                return now.people.size();
            case "back":
                need(image != null, NO);
                now = image.twin();
                return now.people.size();
            default: {
                need(in(v[0], 0, 9), BAD);
                Map<Integer, Integer> all = new HashMap<>();
                int i = 0;
                for (int x : new int[] {now.people.size(), now.hour, now.bar, now.slip, now.turn, now.votes(), now.texts.size(),
                    waiting.size(), tape.length(), now.z}) {
                    all.put(i++, x);
                }
                return all.get(v[0]);
            }
        }
    }
}
