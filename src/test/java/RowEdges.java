/** Edges of rows and images: promises 38 to 42. */
final class RowEdges {
    private static final int BAD = PalmJury.BAD, NO = PalmJury.NO, FULL = PalmJury.FULL;
    private static final int LOW = Acts.LOW, HIGH = Acts.HIGH;

    private RowEdges() {
    }

    /** Two jurors, one with a fact that makes guilty: they meet in hour 1, so 1, 1, then 2, 2 for ever. An image is kept. */
    private static PalmJury kept() {
        PalmJury x = Acts.plain(1, 0);
        x.rule(0, 60);
        x.weigh(0, 10);
        x.keep();
        return x;
    }

    @Says(at = "Promise 38", words = "One more number waits: how many. FULL: 60 wait.")
    static void sixtyWait(Due due) {
        PalmJury x = kept();
        for (int i = 1; i <= 60; i++) {
            due.is("how many", x.tell(i <= 2 ? 1 : 2), i);
        }
        due.row("one more", new long[] {FULL, FULL, 60}, x.tell(2), x.tell(HIGH), x.count(7));
        due.row("they are right, and none wait then", new long[] {0, 0, 1}, x.check(30), x.count(7), x.tell(LOW));
    }

    @Says(at = "Promise 39", words = "The numbers that wait (none do then, whatever is answered) are THE HOURS TOLD")
    static void noneWaitThen(Due due) {
        PalmJury x = new PalmJury();
        Acts.tell(x, 1, 1);
        due.row("no image", new long[] {NO, 0}, x.check(1), x.count(7));
        Acts.tell(x, 1, 1);
        due.row("bad", new long[] {BAD, 0}, x.check(0), x.count(7));
        x = kept();
        Acts.tell(x, 1, 1);
        due.row("right", new long[] {0, 0}, x.check(1), x.count(7));
        due.row("none waits", new long[] {1, 0}, x.check(1), x.count(7));
        Acts.tell(x, 1, 1, 9);
        due.row("wrong", new long[] {3, 0}, x.check(2), x.count(7));
        Acts.tell(x, 1, 1, 2, 2);
        due.row("told anew", new long[] {0, 0}, x.check(2), x.count(7));
        Acts.tell(x, 1, 1, 2);
        due.row("what waited is gone", new long[] {4, 0}, x.check(2), x.count(7));
    }

    @Says(at = "Promise 39", words = "of n (1 .. 30;")
    static void checksOneToThirty(Due due) {
        for (int n = 1; n <= 30; n++) {
            PalmJury x = kept();
            for (int i = 0; i < 2 * n; i++) {
                x.tell(i < 2 ? 1 : 2);
            }
            due.is("n " + n, x.check(n), 0);
        }
    }

    @Says(at = "Promise 39", words = "fewer, if THE HOUR would be above 9999), two by two: 0")
    static void fewerHours(Due due) {
        PalmJury x = Acts.plain(1);
        Acts.toHour(x, 9996);
        x.keep();
        for (int n = 1; n <= 5; n++) {
            for (int i = 0; i < 2 * Math.min(3, n); i++) {
                x.tell(1);
            }
            due.is("three are left, n " + n, x.check(n), 0);
        }
        Acts.tell(x, 1, 1, 1, 1, 1, 1, 1);
        due.is("one too many for three", x.check(30), 7);
        x.hours(3);
        Acts.tell(x, 1, 1, 1, 1, 1, 1);
        due.is("THE HOUR of the image counts", x.check(30), 0);
        x.keep();
        due.row("none is left", new long[] {0, 0}, x.check(1), x.check(30));
        x.tell(1);
        due.is("none is left, and one waits", x.check(1), 1);
    }

    @Says(at = "Promise 39", words = "else 1 and how many stand right ahead of the first that is not (or is missing, or one too many).")
    static void firstThatIsNot(Due due) {
        for (int spoilt = 0; spoilt < 6; spoilt++) {
            for (int by = -1; by <= 1; by += 2) {
                PalmJury x = kept();
                for (int i = 0; i < 6; i++) {
                    x.tell((i < 2 ? 1 : 2) + (i == spoilt ? by : 0));
                }
                due.is("spoilt " + spoilt, x.check(3), 1 + spoilt);
            }
        }
        for (int told = 0; told < 10; told++) {
            PalmJury x = kept();
            for (int i = 0; i < told; i++) {
                x.tell(i < 2 ? 1 : 2);
            }
            due.is("told " + told, x.check(3), told < 6 ? 1 + told : told == 6 ? 0 : 7);
        }
        PalmJury x = kept();
        Acts.tell(x, 1, 1, 2, 0, 2, 0, 9, 9);
        due.is("the first of several", x.check(3), 4);
        for (int i = 0; i < 60; i++) {
            x.tell(i < 2 ? 1 : i == 59 ? 3 : 2);
        }
        due.is("the last of sixty", x.check(30), 60);
    }

    @Says(at = "Promise 39", words = "BAD; NO: there is no IMAGE.")
    static void badCheck(Due due) {
        PalmJury x = new PalmJury();
        due.each("n, and no image", BAD, x.check(0), x.check(31), x.check(-1), x.check(LOW), x.check(HIGH));
        due.each("no image", NO, x.check(1), x.check(30));
        x.keep();
        due.each("n", BAD, x.check(0), x.check(31), x.check(-1), x.check(LOW), x.check(HIGH));
        due.each("nothing told", 1, x.check(1), x.check(30));
        Acts.tell(x, 0, 0);
        due.is("no jurors", x.check(1), 0);
    }

    @Says(at = "Promise 40", words = "AN IMAGE is kept: how many JURORS.")
    static void keep(Due due) {
        PalmJury x = new PalmJury();
        due.row("none", new long[] {0, 0}, x.keep(), x.back());
        x.deal(10);
        due.row("ten", new long[] {10, 10}, x.keep(), x.back());
        x.hours(5);
        due.is("anew", x.keep(), 10);
        x.hours(7);
        due.row("the last one counts", new long[] {10, 5}, x.back(), x.count(1));
        x.hours(2);
        due.row("what is kept stays", new long[] {10, 5}, x.back(), x.count(1));
    }

    @Says(at = "Promise 41", words = "All is as THE IMAGE: how many JURORS.")
    static void back(Due due) {
        PalmJury x = kept();
        x.deal(8);
        x.hours(10);
        x.weigh(0, -10);
        x.rule(0, 1);
        due.row("ten, then two", new long[] {10, 2, 2, 0, 60, 1, 0, 10}, x.count(0), x.back(), x.count(0), x.count(1), x.count(2), x.told(0, 2), x.told(1, 2),
            x.weigh(0, 9));
        due.row("again", new long[] {2, 10}, x.back(), x.weigh(0, 8));
        due.each("who is gone", BAD, x.told(2, 0), x.set(9, 1, 0), x.behind(0, 5));
    }

    @Says(at = "Promise 41", words = "NO: there is none.")
    static void backToNone(Due due) {
        PalmJury x = Acts.plain(1, 0);
        x.hours(3);
        due.row("none, and all stays", new long[] {NO, 2, 3, 1}, x.back(), x.count(0), x.count(1), x.told(1, 2));
        x.keep();
        due.is("one", x.back(), 2);
    }

    @Says(at = "Promise 42", words = "0 how many JURORS, 1 THE HOUR, 2 BAR, 3 SLIP, 4 TURN, 5 how many are GUILTY, 6 TEXTS, 7 numbers that wait, 8 bytes of THE TAPE, 9 z.")
    static void counts(Due due) {
        PalmJury x = Acts.plain(0, 0, 0, 0, 0, 0, 0, 0, 0, 1);
        x.weigh(0, -1);
        x.rule(0, 50);
        x.rule(1, 100);
        x.rule(2, 9);
        for (int i = 0; i < 14; i++) {
            Acts.text(x, "fee 1");
        }
        for (int i = 0; i < 60; i++) {
            x.tell(0);
        }
        for (int i = 0; i < 8; i++) {
            x.feed(0, 0, 0);
        }
        Acts.toHour(x, 9999);
        x.seed(LOW);
        due.row("the greatest", new long[] {10, 9999, 50, 100, 9, 9, 14, 60, 96, LOW}, x.count(0), x.count(1), x.count(2), x.count(3), x.count(4), x.count(5),
            x.count(6), x.count(7), x.count(8), x.count(9));
        x.rule(0, 51);
        due.is("none is guilty", x.count(5), 0);
    }

    @Says(at = "Promise 42", words = "BAD.")
    static void badCount(Due due) {
        PalmJury x = new PalmJury();
        due.each("no such thing", BAD, x.count(-1), x.count(10), x.count(LOW), x.count(HIGH));
    }
}
