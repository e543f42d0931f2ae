import java.util.ArrayDeque;
import java.util.Deque;
import java.util.List;
import java.util.Random;

/** Texts by a lot whose seed is fixed: text() answers the fault that a reader with a stack finds, or takes the text. */
public final class TextTest {
    private static final int TEXTS = 300000, MOST_BYTES = 96, MOST_OPEN = 8;
    private static final List<String> KEYS = List.of("trust", "fee", "fine");
    private static final String[] NAMES = {"kwd", "hs", "pb"};
    private static final String[] BITS = {"(", "(", "(", ")", ")", "!", "!", "!", "+", "-", "*", "/", "<", "=", ">", "&", "|",
        "7", "12", "999", "1234", "12345", " ", "  ", "k", "w", "d", "h", "s", "p", "b", "kw", "%", "A", "\u00e9"};

    private final Random lot = new Random(7);

    public static void main(String[] args) {
        Due due = new Due("TextTest");
        TextTest test = new TextTest();
        int right = 0;
        for (int i = 0; i < TEXTS && !due.failedAlready(); i++) {
            String text = test.text();
            int fault = new Reader(text).fault();
            right += fault < 0 ? 1 : 0;
            due.is("text [" + text + "]", Acts.text(text), fault < 0 ? 0 : -100 - fault);
        }
        due.holds("many are right (" + right + "), many are not", right > TEXTS / 10 && right < TEXTS - TEXTS / 10);
        due.close();
    }

    /** A third of them of bits at random, a third that are texts but for a slip now and then, a third of these ended well. */
    private String text() {
        int mode = lot.nextInt(3);
        int key = lot.nextInt(3);
        StringBuilder text = new StringBuilder(lot.nextInt(20) == 0 ? " " : "");
        text.append(KEYS.get(key)).append(lot.nextInt(10) > 0 ? " " : "");
        int length = lot.nextInt(MOST_BYTES);
        int nots = lot.nextInt(4);
        int opens = nots + lot.nextInt(4);
        boolean wanted = true;
        while (text.length() < length) {
            if (mode == 0 || lot.nextInt(40) == 0) {
                text.append(BITS[lot.nextInt(BITS.length)]);
            } else if (wanted) {
                int choice = lot.nextInt(12);
                String piece = choice < nots ? "!" : choice < opens ? "(" : leaf(NAMES[key]);
                text.append(lot.nextInt(8) == 0 ? " " : "").append(piece);
                wanted = choice < opens;
            } else {
                wanted = lot.nextInt(3) > 0;
                text.append(wanted ? "+-*/<=>&|".charAt(lot.nextInt(9)) : ')');
            }
        }
        String whole = text.substring(0, Math.min(text.length(), MOST_BYTES));
        return mode == 2 ? ended(whole) : whole;
    }

    private String leaf(String names) {
        return lot.nextBoolean() ? String.valueOf(lot.nextInt(1200)) : String.valueOf(names.charAt(lot.nextInt(names.length())));
    }

    /** As much of a text as goes on, and what it lacks. */
    private String ended(String text) {
        int fault = new Reader(text).fault();
        String whole = fault < 0 ? text : text.substring(0, fault);
        for (int i = 0; i < 10 && whole.length() < MOST_BYTES && new Reader(whole).fault() >= 0; i++) {
            int closed = new Reader(whole + ")").fault();
            whole += closed < 0 || closed > whole.length() ? ")" : String.valueOf(lot.nextInt(10));
        }
        return whole;
    }

    /** Goes from word to word: either a piece is wanted, or one has been read and a sign may follow. */
    private static final class Reader {
        private enum Wanted { KEY, PIECE, SIGN }

        private final String text;
        private int from;
        private int to;
        private Wanted wanted = Wanted.KEY;
        private String names = "";
        /** Of each ( that is open what it stands in: if a test has its sign already, and how many ! are open around it. */
        private final Deque<int[]> around = new ArrayDeque<>();
        private boolean tested;
        private int notsAround;
        private int nots;

        Reader(String text) {
            this.text = text;
        }

        /** The place of the fault, or -1. */
        int fault() {
            String behind = "";
            while (true) {
                boolean apart = next();
                if (from == text.length()) {
                    return wanted == Wanted.SIGN && around.isEmpty() ? -1 : from;
                }
                String word = text.substring(from, to);
                if (isWord(behind) && isWord(word) && !apart || !takes(word)) {
                    return from;
                }
                behind = word;
            }
        }

        /** If there were blanks ahead of the next word or sign. */
        private boolean next() {
            int behind = to;
            from = to;
            while (from < text.length() && text.charAt(from) == ' ') {
                from++;
            }
            to = Math.min(from + 1, text.length());
            while (to < text.length() && isWord(text.substring(from, to)) && sort(text.charAt(to)) == sort(text.charAt(from))) {
                to++;
            }
            return from > behind;
        }

        private static int sort(char c) {
            return c >= 'a' && c <= 'z' ? 1 : c >= '0' && c <= '9' ? 2 : 0;
        }

        private static boolean isWord(String word) {
            return !word.isEmpty() && sort(word.charAt(0)) > 0;
        }

        private boolean takes(String word) {
            switch (wanted) {
                case KEY: return takesKey(word);
                case PIECE: return takesPiece(word);
                default: return takesSign(word);
            }
        }

        private boolean takesKey(String word) {
            int key = KEYS.indexOf(word);
            if (key >= 0) {
                names = NAMES[key];
                wanted = Wanted.PIECE;
            }
            return key >= 0;
        }

        private boolean takesPiece(String word) {
            if (word.equals("!")) {
                nots++;
                return nots <= MOST_OPEN;
            }
            if (word.equals("(")) {
                around.push(new int[] {tested ? 1 : 0, notsAround});
                tested = false;
                notsAround = nots;
                return around.size() <= MOST_OPEN;
            }
            nots = notsAround;
            wanted = Wanted.SIGN;
            return word.matches("[0-9]{1,4}") || word.length() == 1 && names.contains(word);
        }

        private boolean takesSign(String word) {
            if (word.equals(")")) {
                if (around.isEmpty()) {
                    return false;
                }
                int[] open = around.pop();
                tested = open[0] == 1;
                notsAround = open[1];
                nots = notsAround;
                return true;
            }
            wanted = Wanted.PIECE;
            if (word.matches("[<=>]")) {
                boolean second = tested;
                tested = true;
                return !second;
            }
            if (word.matches("[&|]")) {
                tested = false;
                return true;
            }
            return word.matches("[-+*/]");
        }
    }
}
