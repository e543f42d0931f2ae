import java.util.ArrayList;
import java.util.List;

/** What tests do with a jury again and again. */
final class Acts {
    static final int LOW = Integer.MIN_VALUE, HIGH = Integer.MAX_VALUE;

    private Acts() {
    }

    /** A jury whose jurors are of these kinds, sit on side 0 and 1 by turns, know these sets, and never slip. */
    static PalmJury jury(int[] kinds, int[] knows) {
        PalmJury x = new PalmJury();
        for (int i = 0; i < kinds.length; i++) {
            x.juror(kinds[i], i % 2, 0);
            x.set(i, 2, knows[i]);
        }
        x.rule(1, 0);
        return x;
    }

    /** A jury of plain jurors that know these sets. */
    static PalmJury plain(int... knows) {
        return jury(new int[knows.length], knows);
    }

    /** One juror that knows fact 0 alone, which has this weight. */
    static PalmJury alone(int kind, int doubt, int weight) {
        PalmJury x = new PalmJury();
        x.juror(kind, 0, doubt);
        x.set(0, 2, 1);
        x.weigh(0, weight);
        return x;
    }

    /** Puts these bytes on the tape and nothing else. */
    static int feedAll(PalmJury x, String s) {
        x.trim(0);
        for (int i = 0; i < s.length(); i += 12) {
            x.feed(four(s, i), four(s, i + 4), four(s, i + 8));
        }
        return x.trim(s.length());
    }

    private static int four(String s, int from) {
        int v = 0;
        for (int i = from; i < from + 4; i++) {
            v = v << 8 | (i < s.length() ? s.charAt(i) : ' ');
        }
        return v;
    }

    static int text(PalmJury x, String s) {
        feedAll(x, s);
        return x.text();
    }

    /** What text() answers on a new object. */
    static int text(String s) {
        return text(new PalmJury(), s);
    }

    /** What a text of the key fee gives on a new object; the text must be right. */
    static int gives(Due due, String s) {
        PalmJury x = new PalmJury();
        due.is("fee " + s, text(x, "fee " + s), 0);
        return x.fee();
    }

    static void toHour(PalmJury x, int hour) {
        for (int at = x.count(1); at < hour; at += 100) {
            x.hours(Math.min(100, hour - at));
        }
    }

    /** A place of a sheet, by way of slot 4. */
    static int place(PalmJury x, int sheet, int place) {
        x.lay(4, 2, sheet);
        return x.item(4, place);
    }

    static void mark(PalmJury x, int sheet, int... row) {
        for (int i = 0; i < row.length; i++) {
            x.mark(sheet, i, row[i]);
        }
    }

    static void tell(PalmJury x, int... row) {
        for (int v : row) {
            x.tell(v);
        }
    }

    static int drawn(int z) {
        return z * 1103515245 + 12345;
    }

    /** A seed whose draws slip by 99 so many times, and not once more. */
    static int seedThatSlips(int times) {
        for (int seed = 0; seed < 1000000; seed++) {
            int z = seed;
            int slips = -1;
            do {
                z = drawn(z);
                slips++;
            } while ((z >>> 8) % 100 < 99 && slips <= times);
            if (slips == times) {
                return seed;
            }
        }
        return 0;
    }

    /**
     * All that can be told of a jury, in a row. The jury is used up by it: slots are laid anew, weights become 0, the
     * tape is read, numbers that wait are checked, and at last all is as its image.
     */
    static List<Integer> usedUp(PalmJury x) {
        List<Integer> row = new ArrayList<>();
        asItIs(x, row);
        for (int slot = 0; slot < 5; slot++) {
            row.add(x.ask(slot, 0));
            row.add(x.rest(slot, 1009));
            for (int place = 0; place < 4; place++) {
                row.add(x.item(slot, place));
            }
        }
        for (int sheet = 0; sheet < 4; sheet++) {
            row.add(x.mark(sheet, 0, PalmJury.NONE));
            for (int place = 0; place < 4; place++) {
                row.add(x.lay(0, 2, sheet));
                row.add(x.item(0, place));
            }
        }
        row.add(x.text());
        row.add(x.fee());
        row.add(x.check(2));
        row.add(x.back());
        asItIs(x, row);
        return row;
    }

    private static void asItIs(PalmJury x, List<Integer> row) {
        for (int what = 0; what < 10; what++) {
            row.add(x.count(what));
        }
        for (int i = 0; i < x.count(0); i++) {
            for (int what = 0; what < 9; what++) {
                row.add(x.told(i, what));
            }
            row.add(x.fine(i));
        }
        for (int key = 0; key < 3; key++) {
            row.add(x.why(key));
        }
        row.add(x.jury(2));
        row.add(x.fee());
        for (int fact = 0; fact < 8; fact++) {
            row.add(x.weigh(fact, 0));
        }
    }
}
