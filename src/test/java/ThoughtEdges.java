/** Edges of what will be: promises 15 to 21. */
final class ThoughtEdges {
    private static final int BAD = PalmJury.BAD, NONE = PalmJury.NONE, NOTHING = PalmJury.NOTHING;
    private static final int LOW = Acts.LOW, HIGH = Acts.HIGH;

    private ThoughtEdges() {
    }

    @Says(at = "Promise 15", words = "BEHIND n (0 .. 100) HOURS")
    static void behindHours(Due due) {
        // Each meeting passes on one fact; two jurors meet in every second hour.
        PalmJury x = Acts.plain(255, 0);
        due.row("0, 1, 2, 16, 100", new long[] {0, 0, 1, 255, 255}, x.behind(0, 4), x.behind(1, 4), x.behind(2, 4), x.behind(16, 4), x.behind(100, 4));
        x.rule(1, 100);
        due.row("slips", new long[] {0, 49, 50}, x.behind(0, 2), x.behind(99, 2), x.behind(100, 2));
    }

    @Says(at = "Promise 15", words = "what 0 COMMON, 1 VOTES, 2 SLIPS; 3 and k: KNOWS of JUROR k.")
    static void behindWhat(Due due) {
        PalmJury x = Acts.plain(1, 2, 4, 8, 16, 32, 64, 128, 3, 5);
        for (int k = 0; k < 10; k++) {
            due.is("juror " + k, x.behind(0, 3 + k), x.told(k, 2));
        }
        due.row("the others", new long[] {0, 10, 0}, x.behind(0, 0), x.behind(0, 1), x.behind(0, 2));
        due.is("all know all at last", x.behind(100, 0), 255);
    }

    @Says(at = "Promise 15", words = "BAD.")
    static void badBehind(Due due) {
        PalmJury x = new PalmJury();
        due.row("no jurors", new long[] {255, 0, 0, BAD, BAD}, x.behind(0, 0), x.behind(0, 1), x.behind(100, 2), x.behind(0, 3), x.behind(0, 12));
        due.each("n", BAD, x.behind(-1, 0), x.behind(101, 0), x.behind(LOW, 0), x.behind(HIGH, 0));
        x.deal(9);
        due.each("no such juror", BAD, x.behind(0, 12), x.behind(0, 13), x.behind(0, HIGH));
        due.each("no such thing", BAD, x.behind(0, -1), x.behind(0, -3), x.behind(0, LOW), x.behind(0, LOW + 3));
    }

    @Says(at = "Promise 16", words = "ALL KNOW. NONE: not by then.")
    static void allKnow(Due due) {
        PalmJury x = Acts.plain(1, 0);
        x.rule(1, 99);
        x.seed(Acts.seedThatSlips(99));
        due.is("behind 200", x.allKnow(), 200);
        x.seed(Acts.seedThatSlips(100));
        due.is("not by then", x.allKnow(), NONE);
        x.set(1, 2, 1);
        due.is("now", x.allKnow(), 0);
        x.set(0, 2, 0);
        x.set(1, 2, 0);
        due.is("nobody knows any", x.allKnow(), 0);
    }

    @Says(at = "Promise 17", words = "BEST TURN for n (1 .. 60): what 0 the TURN, 1 FACTS known then.")
    static void bestTurn(Due due) {
        PalmJury x = Acts.plain(255, 0);
        due.row("n 1", new long[] {1, 9}, x.bestTurn(1, 0), x.bestTurn(1, 1));
        due.row("n 3", new long[] {1, 10}, x.bestTurn(3, 0), x.bestTurn(3, 1));
        due.row("n 60", new long[] {0, 16}, x.bestTurn(60, 0), x.bestTurn(60, 1));
        x.rule(1, 99);
        x.set(1, 2, 254);
        x.seed(Acts.seedThatSlips(29));
        due.row("n 58, the thirtieth meeting is too late with TURN 0 and 1", new long[] {0, 15}, x.bestTurn(58, 0), x.bestTurn(58, 1));
        due.row("n 59, in time with TURN 1", new long[] {1, 16}, x.bestTurn(59, 0), x.bestTurn(59, 1));
        due.row("n 60, in time with TURN 0", new long[] {0, 16}, x.bestTurn(60, 0), x.bestTurn(60, 1));
    }

    @Says(at = "Promise 17", words = "BAD.")
    static void badBestTurn(Due due) {
        PalmJury x = Acts.plain(1, 0);
        due.each("n", BAD, x.bestTurn(0, 0), x.bestTurn(61, 0), x.bestTurn(-1, 1), x.bestTurn(LOW, 0), x.bestTurn(HIGH, 1));
        due.each("no such thing", BAD, x.bestTurn(1, -1), x.bestTurn(60, 2), x.bestTurn(1, LOW), x.bestTurn(1, HIGH));
    }

    @Says(at = "Promise 18", words = "SURE behind n (1 .. 60), as a set.")
    static void sure(Due due) {
        PalmJury x = Acts.plain(128, 128);
        due.row("already", new long[] {128, 128}, x.sure(1), x.sure(60));
        // Of these three 1 meets 2 in hour 0, 0 meets 1 in hour 1, 0 meets 2 in hour 2.
        PalmJury y = Acts.plain(1, 1, 0);
        due.row("n 1, 2, 3", new long[] {0, 0, 1}, y.sure(1), y.sure(2), y.sure(3));
        PalmJury late = Acts.plain(1, 1, 0);
        late.set(1, 2, 0);
        due.row("only one knows it", new long[] {0, 1}, late.sure(60), late.behind(60, 0));
    }

    @Says(at = "Promise 18", words = "BAD.")
    static void badSure(Due due) {
        PalmJury x = new PalmJury();
        due.each("n", BAD, x.sure(0), x.sure(61), x.sure(-1), x.sure(LOW), x.sure(HIGH));
    }

    @Says(at = "Promise 19", words = "ADVOCATE for n (0 .. 60): what 0 twice the FACT, and the way, 1 VOTES then.")
    static void advocate(Due due) {
        PalmJury x = Acts.plain(0, 0, 0);
        x.rule(0, 60);
        x.weigh(7, 10);
        due.row("n 0: shown to two", new long[] {14, 2}, x.advocate(0, 0), x.advocate(0, 1));
        due.row("n 1: one of them meets the third", new long[] {14, 3}, x.advocate(1, 0), x.advocate(1, 1));
        due.row("n 60", new long[] {14, 3}, x.advocate(60, 0), x.advocate(60, 1));
        x.set(0, 1, 1);
        x.set(2, 1, 1);
        due.row("n 0: said to three", new long[] {15, 3}, x.advocate(0, 0), x.advocate(0, 1));
    }

    @Says(at = "Promise 19", words = "BAD.")
    static void badAdvocate(Due due) {
        PalmJury x = Acts.plain(1, 0);
        due.each("n", BAD, x.advocate(-1, 0), x.advocate(61, 0), x.advocate(LOW, 0), x.advocate(HIGH, 1));
        due.each("no such thing", BAD, x.advocate(0, -1), x.advocate(0, 2), x.advocate(60, LOW), x.advocate(60, HIGH));
    }

    @Says(at = "Promise 20", words = "TIPPED for n (1 .. 60), as a set.")
    static void tipped(Due due) {
        PalmJury x = Acts.plain(1, 0);
        x.weigh(0, 10);
        x.rule(0, 60);
        due.row("n 1: they have not met; 2: they have; 60", new long[] {0, 1, 1}, x.tipped(1), x.tipped(2), x.tipped(60));
        x.rule(1, 99);
        x.seed(Acts.seedThatSlips(29));
        due.row("they meet in the sixtieth hour", new long[] {0, 1}, x.tipped(59), x.tipped(60));
        PalmJury both = Acts.plain(1, 2);
        both.weigh(0, 5);
        both.weigh(1, 5);
        both.rule(0, 60);
        due.row("each of both", new long[] {0, 3}, both.tipped(1), both.tipped(2));
    }

    @Says(at = "Promise 20", words = "BAD.")
    static void badTipped(Due due) {
        PalmJury x = new PalmJury();
        due.each("n", BAD, x.tipped(0), x.tipped(61), x.tipped(-1), x.tipped(LOW), x.tipped(HIGH));
    }

    @Says(at = "Promise 21", words = "WEIGHED by a SHEET: what 0 the FACT, 1 the differences, together.")
    static void weighed(Due due) {
        PalmJury x = Acts.plain(128);
        for (int sheet = 0; sheet < 4; sheet++) {
            x.sheet(sheet, sheet % 2, 1);
            x.mark(sheet, 0, 70 + sheet);
            due.row("sheet " + sheet, new long[] {7, sheet}, x.weighed(sheet, 0), x.weighed(sheet, 1));
        }
        x.sheet(0, 0, 0);
        due.row("no places", new long[] {0, 0}, x.weighed(0, 0), x.weighed(0, 1));
    }

    @Says(at = "Promise 21", words = "BAD; NOTHING.")
    static void badWeighed(Due due) {
        PalmJury x = Acts.plain(1);
        x.sheet(0, 0, 1);
        x.sheet(3, 1, 1);
        due.each("no such sheet", BAD, x.weighed(-1, 0), x.weighed(4, 0), x.weighed(LOW, 0), x.weighed(HIGH, 0));
        due.each("no such thing", BAD, x.weighed(0, -1), x.weighed(3, 2), x.weighed(0, LOW), x.weighed(0, HIGH), x.weighed(1, 2));
        due.each("missing", NOTHING, x.weighed(1, 0), x.weighed(2, 1));
        x.sheet(3, -1, 0);
        due.each("missing again", NOTHING, x.weighed(3, 0), x.weighed(3, 1));
    }
}
