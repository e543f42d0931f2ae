/** Edges of jurors, facts and hours: promises 1 to 14. */
final class JurorEdges {
    private static final int BAD = PalmJury.BAD, NO = PalmJury.NO, FULL = PalmJury.FULL, NONE = PalmJury.NONE,
        NOTHING = PalmJury.NOTHING, KIND = PalmJury.KIND;
    private static final int LOW = Acts.LOW, HIGH = Acts.HIGH;

    private JurorEdges() {
    }

    @Says(at = "Promise 1", words = "As told; no JURORS.")
    static void aNewObject(Due due) {
        PalmJury x = new PalmJury();
        due.row("counts", new long[] {0, 0, 50, 10, 0, 0, 0, 0, 0, 1}, x.count(0), x.count(1), x.count(2), x.count(3), x.count(4), x.count(5),
            x.count(6), x.count(7), x.count(8), x.count(9));
        due.row("jury", new long[] {255, 0, 0, 0, 0}, x.jury(0), x.jury(1), x.jury(2), x.jury(3), x.jury(4));
        due.each("no jurors", BAD, x.told(0, 0), x.as(0, 0), x.turns(0, 0), x.set(0, 1, 0), x.tells(0, 1), x.fine(0), x.behind(0, 3), x.lay(0, 1, 0));
        due.each("no image", NO, x.back(), x.check(1));
        due.each("no sheets", NOTHING, x.reads(0), x.reads(1), x.reads(2), x.reads(3));
        due.each("slots hold nothing", 0, x.lay(0, 0, 0), x.lay(1, 0, 0), x.lay(2, 0, 0), x.lay(3, 0, 0), x.lay(4, 0, 0));
        due.each("no weights", 0, x.weigh(0, 1), x.weigh(1, 1), x.weigh(2, 1), x.weigh(3, 1), x.weigh(4, 1), x.weigh(5, 1), x.weigh(6, 1), x.weigh(7, 1));
        due.each("no texts", NONE, x.why(0), x.why(1), x.why(2));
        PalmJury y = new PalmJury();
        due.each("each object by itself", 0, y.weigh(0, 1), y.count(0));
    }

    @Says(at = "Promise 2", words = "One more JUROR: its number.")
    static void oneMoreJuror(Due due) {
        PalmJury x = new PalmJury();
        due.row("all kinds", new long[] {0, 1, 2, 3, 4, 5}, x.juror(0, 0, 0), x.juror(1, 1, 40), x.juror(2, 0, 1), x.juror(3, 1, 39), x.juror(4, 0, 20),
            x.juror(5, 1, 40));
        int[] doubts = {0, 40, 1, 39, 20, 40};
        for (int i = 0; i < 6; i++) {
            due.row("juror " + i, new long[] {i, i % 2, 0, doubts[i], 0}, x.told(i, 0), x.told(i, 1), x.told(i, 2), x.told(i, 3), x.told(i, 4));
        }
    }

    @Says(at = "Promise 2", words = "BAD; FULL.")
    static void badJuror(Due due) {
        PalmJury x = new PalmJury();
        due.each("kind", BAD, x.juror(-1, 0, 0), x.juror(6, 0, 0), x.juror(LOW, 0, 0), x.juror(HIGH, 0, 0));
        due.each("side", BAD, x.juror(0, -1, 0), x.juror(0, 2, 0), x.juror(0, LOW, 0), x.juror(0, HIGH, 0));
        due.each("doubt", BAD, x.juror(0, 0, -1), x.juror(0, 0, 41), x.juror(0, 0, LOW), x.juror(0, 0, HIGH));
        due.is("none came", x.count(0), 0);
    }

    @Says(at = "Promise 2", words = "FULL.")
    static void fullJury(Due due) {
        PalmJury x = new PalmJury();
        x.deal(9);
        x.keep();
        due.row("the tenth, and one more", new long[] {9, FULL, 10}, x.juror(5, 1, 40), x.juror(0, 0, 0), x.count(0));
        due.row("room again", new long[] {9, 9, FULL}, x.back(), x.juror(1, 0, 3), x.juror(0, 0, 0));
        due.row("the tenth is the new one", new long[] {1, 3}, x.told(9, 0), x.told(9, 3));
    }

    @Says(at = "Promise 3", words = "Of a JUROR: what 0 KIND, 1 SIDE, 2 KNOWS, 3 DOUBT, 4 PASSED, 5 what it BELIEVES, 6 GUILTY (1, 0), 7 with whom it is PAIRED now (itself: it rests), 8 WORTH.")
    static void told(Due due) {
        PalmJury x = Acts.jury(new int[] {0, 3}, new int[] {0, 3});
        x.set(1, 3, 8);
        x.weigh(0, 20);
        due.row("at rest", new long[] {3, 1, 3, 8, 0, 56, 1, 1, 26}, x.told(1, 0), x.told(1, 1), x.told(1, 2), x.told(1, 3), x.told(1, 4), x.told(1, 5),
            x.told(1, 6), x.told(1, 7), x.told(1, 8));
        x.hours(1);
        x.rule(0, 57);
        due.row("with the other one", new long[] {0, 0, 1}, x.told(1, 6), x.told(1, 7), x.told(0, 7));
        x.hours(1);
        due.row("passed", new long[] {1, 2, 1}, x.told(1, 4), x.told(0, 2), x.told(1, 7));
    }

    @Says(at = "Promise 3", words = "BAD.")
    static void badTold(Due due) {
        PalmJury x = new PalmJury();
        for (int what = 0; what < 9; what++) {
            due.each("no jurors", BAD, x.told(0, what), x.told(-1, what));
        }
        x.deal(10);
        for (int what = 0; what < 9; what++) {
            due.each("no such juror", BAD, x.told(10, what), x.told(-1, what), x.told(LOW, what), x.told(HIGH, what));
        }
        due.each("no such thing", BAD, x.told(0, -1), x.told(0, 9), x.told(9, LOW), x.told(9, HIGH));
    }

    @Says(at = "Promise 4", words = "BAD: also itself")
    static void badTells(Due due) {
        PalmJury x = new PalmJury();
        due.each("no jurors", BAD, x.tells(0, 1), x.tells(0, 0));
        x.juror(0, 0, 0);
        due.each("one alone", BAD, x.tells(0, 0), x.tells(0, 1), x.tells(1, 0));
        x.juror(0, 0, 0);
        x.set(0, 2, 255);
        due.each("no such juror", BAD, x.tells(-1, 0), x.tells(0, -1), x.tells(2, 0), x.tells(0, 2), x.tells(LOW, HIGH), x.tells(HIGH, LOW), x.tells(2, 2));
        due.each("itself", BAD, x.tells(0, 0), x.tells(1, 1));
    }

    @Says(at = "Promise 4", words = "What one TELLS another one now.")
    static void tells(Due due) {
        PalmJury x = Acts.plain(129, 2);
        due.row("fact 0", new long[] {0, 1}, x.tells(0, 1), x.tells(1, 0));
        x.set(1, 2, 1);
        due.row("fact 7", new long[] {7, NONE}, x.tells(0, 1), x.tells(1, 0));
        due.row("they are not paired, and nothing is passed", new long[] {0, 1}, x.told(0, 7), x.told(1, 2));
    }

    @Says(at = "Promise 4", words = "NONE: nothing.")
    static void tellsNothing(Due due) {
        PalmJury x = Acts.plain(0, 255);
        due.is("knows none", x.tells(0, 1), NONE);
        x.set(0, 2, 255);
        due.is("the other one knows all", x.tells(0, 1), NONE);
        x.set(1, 2, 0);
        x.turns(0, 5);
        due.is("mute", x.tells(0, 1), NONE);
        x.turns(0, 4);
        due.is("no weights above 0", x.tells(0, 1), NONE);
    }

    @Says(at = "Promise 5", words = "BAD: juror, kind")
    static void badAs(Due due) {
        PalmJury x = new PalmJury();
        due.each("no jurors", BAD, x.as(0, 0), x.as(-1, 0));
        x.juror(5, 0, 7);
        due.each("no such juror", BAD, x.as(1, 0), x.as(-1, 0), x.as(LOW, 0), x.as(HIGH, 5));
        due.each("no such kind", BAD, x.as(0, -1), x.as(0, 6), x.as(0, LOW), x.as(0, HIGH));
        due.row("the least and the greatest kind", new long[] {7, 7}, x.as(0, 0), x.as(0, 5));
    }

    @Says(at = "Promise 5", words = "A JUROR as one of a KIND: DOUBT. BAD: juror, kind; KIND: it is not of that KIND, nor of one under it.")
    static void asNotOfThatKind(Due due) {
        int[] of = {0b000001, 0b000011, 0b000101, 0b001011, 0b010101, 0b100001};
        for (int kind = 0; kind < 6; kind++) {
            for (int doubt = 0; doubt <= 40; doubt += 40) {
                PalmJury x = Acts.alone(kind, doubt, 0);
                for (int asked = 0; asked < 6; asked++) {
                    due.is(kind + " as " + asked, x.as(0, asked), (of[kind] >> asked & 1) == 1 ? doubt : KIND);
                }
            }
        }
    }

    @Says(at = "Promise 6", words = "A JUROR is of another KIND from now on: what it was.")
    static void turns(Due due) {
        PalmJury x = Acts.alone(0, 11, 0);
        due.row("round", new long[] {0, 5, 3, 3}, x.turns(0, 5), x.turns(0, 3), x.turns(0, 3), x.told(0, 0));
        due.row("all else stays", new long[] {0, 1, 11, 0}, x.told(0, 1), x.told(0, 2), x.told(0, 3), x.told(0, 4));
    }

    @Says(at = "Promise 6", words = "BAD.")
    static void badTurns(Due due) {
        PalmJury x = new PalmJury();
        due.each("no jurors", BAD, x.turns(0, 0), x.turns(-1, 0));
        x.juror(2, 0, 0);
        due.each("no such juror", BAD, x.turns(1, 0), x.turns(-1, 0), x.turns(LOW, 0), x.turns(HIGH, 0));
        due.each("no such kind", BAD, x.turns(0, -1), x.turns(0, 6), x.turns(0, LOW), x.turns(0, HIGH));
        due.is("it stays", x.told(0, 0), 2);
    }

    @Says(at = "Promise 7", words = "SIDE, KNOWS (0 .. 255), DOUBT (what 1 .. 3) of a JUROR becomes v: what it was.")
    static void set(Due due) {
        PalmJury x = Acts.alone(0, 7, 0);
        due.row("side", new long[] {0, 1, BAD, BAD, 0}, x.set(0, 1, 1), x.set(0, 1, 0), x.set(0, 1, 2), x.set(0, 1, -1), x.told(0, 1));
        due.row("knows", new long[] {1, 255, BAD, BAD, 0}, x.set(0, 2, 255), x.set(0, 2, 0), x.set(0, 2, 256), x.set(0, 2, -1), x.told(0, 2));
        due.row("doubt", new long[] {7, 40, BAD, BAD, 0}, x.set(0, 3, 40), x.set(0, 3, 0), x.set(0, 3, 41), x.set(0, 3, -1), x.told(0, 3));
    }

    @Says(at = "Promise 7", words = "BAD.")
    static void badSet(Due due) {
        PalmJury x = new PalmJury();
        due.each("no jurors", BAD, x.set(0, 1, 0), x.set(0, 2, 0), x.set(0, 3, 0));
        x.juror(0, 0, 0);
        due.each("no such juror", BAD, x.set(1, 1, 0), x.set(-1, 2, 0), x.set(LOW, 3, 0), x.set(HIGH, 1, 0));
        due.each("no such thing", BAD, x.set(0, 0, 0), x.set(0, 4, 0), x.set(0, -1, 0), x.set(0, LOW, 0), x.set(0, HIGH, 0));
        due.each("far beyond", BAD, x.set(0, 1, LOW), x.set(0, 1, HIGH), x.set(0, 2, LOW), x.set(0, 2, HIGH), x.set(0, 3, LOW), x.set(0, 3, HIGH));
    }

    @Says(at = "Promise 8", words = "WEIGHT of a FACT becomes v: what it was. BAD.")
    static void weigh(Due due) {
        PalmJury x = new PalmJury();
        due.row("fact 0", new long[] {0, -50, BAD, BAD, 50}, x.weigh(0, -50), x.weigh(0, 50), x.weigh(0, 51), x.weigh(0, -51), x.weigh(0, 0));
        due.row("fact 7", new long[] {0, 50, BAD, BAD, -50}, x.weigh(7, 50), x.weigh(7, -50), x.weigh(7, LOW), x.weigh(7, HIGH), x.weigh(7, 0));
        due.each("no such fact", BAD, x.weigh(-1, 0), x.weigh(8, 0), x.weigh(LOW, 0), x.weigh(HIGH, 0));
    }

    @Says(at = "Promise 9", words = "BAR (what 0), SLIP (1), TURN (2) becomes v: what it was. BAD.")
    static void rule(Due due) {
        PalmJury x = new PalmJury();
        due.row("bar", new long[] {50, 0, 100, BAD, BAD}, x.rule(0, 0), x.rule(0, 100), x.rule(0, 33), x.rule(0, -1), x.rule(0, 101));
        due.row("slip", new long[] {10, 0, 100, BAD, BAD}, x.rule(1, 0), x.rule(1, 100), x.rule(1, 44), x.rule(1, -1), x.rule(1, 101));
        due.row("turn", new long[] {0, 9, 0, BAD, BAD}, x.rule(2, 9), x.rule(2, 0), x.rule(2, 5), x.rule(2, -1), x.rule(2, 10));
        due.each("no such rule", BAD, x.rule(-1, 0), x.rule(3, 0), x.rule(LOW, 0), x.rule(HIGH, 0));
        due.each("far beyond", BAD, x.rule(0, LOW), x.rule(0, HIGH), x.rule(1, LOW), x.rule(1, HIGH), x.rule(2, LOW), x.rule(2, HIGH));
        due.row("as they are", new long[] {33, 44, 5}, x.count(2), x.count(3), x.count(4));
    }

    private static int zBehind(int jurors) {
        int z = 1;
        for (int i = 0; i < 4 * jurors; i++) {
            z = Acts.drawn(z);
        }
        return z;
    }

    @Says(at = "Promise 10", words = "JURORS are drawn, n (1 .. 10) of them")
    static void deal(Due due) {
        for (int n = 1; n <= 10; n++) {
            PalmJury x = new PalmJury();
            due.row("deal " + n, new long[] {n, n, zBehind(n)}, x.deal(n), x.count(0), x.count(9));
        }
    }

    @Says(at = "Promise 10", words = "as many as there is room for (no draws for others): how many came.")
    static void dealWithoutRoom(Due due) {
        for (int had = 0; had <= 10; had++) {
            PalmJury x = new PalmJury();
            for (int i = 0; i < had; i++) {
                x.juror(0, 0, 0);
            }
            due.row("ten behind " + had, new long[] {10 - had, 10, zBehind(10 - had)}, x.deal(10), x.count(0), x.count(9));
            due.row("and one more", new long[] {0, 10, zBehind(10 - had)}, x.deal(1), x.count(0), x.count(9));
        }
    }

    @Says(at = "Promise 10", words = "BAD.")
    static void badDeal(Due due) {
        PalmJury x = new PalmJury();
        due.each("n", BAD, x.deal(0), x.deal(11), x.deal(-1), x.deal(LOW), x.deal(HIGH));
        due.row("none came", new long[] {0, 1}, x.count(0), x.count(9));
        x.deal(10);
        due.each("n, and no room", BAD, x.deal(0), x.deal(11));
    }

    @Says(at = "Promise 11", words = "z becomes v: what it was.")
    static void seed(Due due) {
        PalmJury x = new PalmJury();
        due.row("any number", new long[] {1, LOW, HIGH, 0, -1, BAD, BAD}, x.seed(LOW), x.seed(HIGH), x.seed(0), x.seed(-1), x.seed(BAD), x.count(9), x.seed(1));
    }

    @Says(at = "Promise 12", words = "A FACT is SHOWN (way 0), SAID (1): how many KNOW it only now.")
    static void out(Due due) {
        PalmJury x = Acts.plain(0, 0, 1, 128);
        due.row("shown", new long[] {1, 0, 1, 0, 1, 128}, x.out(0, 0), x.out(0, 0), x.told(0, 2), x.told(1, 2), x.told(2, 2), x.told(3, 2));
        due.row("said", new long[] {1, 0, 1, 128, 1, 128}, x.out(7, 1), x.out(7, 1), x.told(0, 2), x.told(1, 2), x.told(2, 2), x.told(3, 2));
        PalmJury ten = new PalmJury();
        for (int i = 0; i < 10; i++) {
            ten.juror(5, 1, 0);
        }
        due.row("to ten, and to none", new long[] {10, 0, 0}, ten.out(7, 1), ten.out(7, 0), new PalmJury().out(0, 0));
    }

    @Says(at = "Promise 12", words = "BAD.")
    static void badOut(Due due) {
        PalmJury x = Acts.plain(0, 0);
        due.each("no such fact", BAD, x.out(-1, 0), x.out(8, 0), x.out(LOW, 1), x.out(HIGH, 1), x.out(32, 0));
        due.each("no such way", BAD, x.out(0, -1), x.out(0, 2), x.out(0, LOW), x.out(0, HIGH));
        due.is("nothing came out", x.jury(3), 0);
    }

    @Says(at = "Promise 13", words = "n (1 .. 100) HOURS (no more than up to 9999)")
    static void upToTheLastHour(Due due) {
        PalmJury x = Acts.plain(255, 0);
        due.row("one and a hundred", new long[] {0, 1, 8, 101}, x.hours(1), x.count(1), x.hours(100), x.count(1));
        Acts.toHour(x, 9990);
        x.set(1, 2, 0);
        // In the nine hours that are left they meet in 9991, 9993, 9995, 9997.
        due.row("nine are left", new long[] {4, 9999, 15}, x.hours(100), x.count(1), x.told(1, 2));
        int z = x.count(9);
        due.row("none is left", new long[] {0, 0, 9999, z, 15, 12}, x.hours(1), x.hours(100), x.count(1), x.count(9), x.told(1, 2), x.told(0, 4));
    }

    @Says(at = "Promise 13", words = "how many FACTS were passed in them.")
    static void passedInThem(Due due) {
        PalmJury x = Acts.plain(0b1111, 0b110000);
        due.row("by both, by one, by none", new long[] {0, 2, 0, 2, 2, 0}, x.hours(1), x.hours(1), x.hours(1), x.hours(1), x.hours(50), x.hours(100));
        due.row("passed", new long[] {4, 2}, x.told(0, 4), x.told(1, 4));
        x.set(0, 2, 0);
        x.rule(1, 100);
        due.is("all slip", x.hours(100), 0);
        PalmJury four = Acts.plain(1, 2, 4, 8);
        four.rule(2, 3);
        due.is("by two pairs in an hour", four.hours(1), 4);
        due.is("nobody", new PalmJury().hours(100), 0);
    }

    @Says(at = "Promise 13", words = "BAD.")
    static void badHours(Due due) {
        PalmJury x = Acts.plain(1, 0);
        due.each("n", BAD, x.hours(0), x.hours(101), x.hours(-1), x.hours(LOW), x.hours(HIGH));
        due.row("no hour went by", new long[] {0, 1}, x.count(1), x.count(9));
        Acts.toHour(x, 9999);
        due.each("n, and no hour is left", BAD, x.hours(0), x.hours(101));
    }

    @Says(at = "Promise 14", words = "COMMON (what 0), VOTES (1), SLIPS (2), FACTS known, of all JURORS, together (3), what any KNOWS, as a set (4).")
    static void jury(Due due) {
        PalmJury x = Acts.plain(255, 255, 255, 255, 255, 255, 255, 255, 255, 255);
        due.row("ten that know all", new long[] {255, 10, 0, 80, 255}, x.jury(0), x.jury(1), x.jury(2), x.jury(3), x.jury(4));
        PalmJury y = Acts.plain(0, 129);
        y.weigh(7, -1);
        due.row("none and two", new long[] {0, 1, 0, 2, 129}, y.jury(0), y.jury(1), y.jury(2), y.jury(3), y.jury(4));
        y.rule(1, 100);
        y.hours(100);
        due.is("slips", y.jury(2), 50);
    }

    @Says(at = "Promise 14", words = "BAD.")
    static void badJury(Due due) {
        PalmJury x = new PalmJury();
        due.each("no such thing", BAD, x.jury(-1), x.jury(5), x.jury(LOW), x.jury(HIGH));
    }
}
