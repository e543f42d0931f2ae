import java.util.List;

/** Edges that the terms name: of jurors, hours, draws, sheets, slots and images. */
final class TermEdges {
    private static final int BAD = PalmJury.BAD, FULL = PalmJury.FULL, NONE = PalmJury.NONE, NOTHING = PalmJury.NOTHING,
        KIND = PalmJury.KIND, INDEX = PalmJury.INDEX, SIZE = PalmJury.SIZE;
    private static final int LOW = Acts.LOW, HIGH = Acts.HIGH;

    private TermEdges() {
    }

    @Says(at = "What it is", words = "An object is used for at most 512 calls after it has been made")
    static void answersAsDueUpToItsLastCall(Due due) {
        PalmJury x = new PalmJury();
        for (int call = 1; call <= 510; call++) {
            due.is("call " + call, x.seed(call + 1), call);
        }
        due.is("call 511", x.hours(100), 0);
        due.is("call 512", x.count(1), 100);
    }

    private static int zAfterDraws(int many) {
        int z = 1;
        for (int i = 0; i < many; i++) {
            z = Acts.drawn(z);
        }
        return z;
    }

    @Says(at = "Terms 0", words = "All numbers are whole; / cuts towards 0.")
    static void cutsTowardsZero(Due due) {
        due.is("7/2", Acts.gives(due, "7/2"), 3);
        due.is("-7/2", Acts.gives(due, "(0-7)/2"), -3);
        due.is("7/-2", Acts.gives(due, "7/(0-2)"), -3);
        due.is("-7/-2", Acts.gives(due, "(0-7)/(0-2)"), 3);
        due.is("1/2", Acts.gives(due, "1/2"), 0);
        due.is("-1/2", Acts.gives(due, "(0-1)/2"), 0);
    }

    @Says(at = "Terms 0", words = "NONE: there is none.")
    static void none(Due due) {
        PalmJury x = Acts.jury(new int[] {5, 0}, new int[] {1, 0});
        x.sheet(0, 0, 0);
        due.each("there is none", NONE, x.tells(0, 1), x.tells(1, 0), x.allKnow(), x.why(0), x.why(1), x.why(2), x.reads(0));
    }

    @Says(at = "Terms 0", words = "Sets of FACTS, of JURORS are told by bits.")
    static void setsByBits(Due due) {
        PalmJury x = Acts.plain(0, 0, 0, 0, 0, 0, 0, 0, 0, 0);
        x.rule(0, 60);
        x.weigh(7, 10);
        x.weigh(0, 10);
        x.set(9, 2, 128);
        due.is("fact 7", x.jury(4), 128);
        due.is("juror 9", x.tipped(60), 512);
        x.set(9, 2, 0);
        x.set(0, 2, 1);
        due.is("fact 0", x.jury(4), 1);
        due.is("juror 0", x.tipped(60), 1);
    }

    // ---- 1

    @Says(at = "Terms 1", words = "JURORS, 10 at most, numbered from 0")
    static void tenJurors(Due due) {
        PalmJury x = new PalmJury();
        for (int i = 0; i < 10; i++) {
            due.is("number", x.juror(0, 0, 0), i);
        }
        due.each("the eleventh", FULL, x.juror(0, 0, 0));
        due.each("it did not come", BAD, x.told(10, 0));
        due.is("ten", x.count(0), 10);
        PalmJury y = new PalmJury();
        due.row("nine and one by lot, and none", new long[] {9, 1, 0}, y.deal(9), y.deal(2), y.deal(1));
        due.is("the eleventh", y.juror(0, 0, 0), FULL);
    }

    @Says(at = "Terms 1", words = "SIDE 0 (sees) or 1 (hears)")
    static void sides(Due due) {
        PalmJury x = new PalmJury();
        due.row("sides", new long[] {0, 1, BAD, BAD}, x.juror(0, 0, 0), x.juror(0, 1, 0), x.juror(0, 2, 0), x.juror(0, -1, 0));
        due.row("told", new long[] {0, 1}, x.told(0, 1), x.told(1, 1));
        due.row("seen and heard", new long[] {1, 1, 1, 2}, x.out(0, 0), x.out(1, 1), x.told(0, 2), x.told(1, 2));
    }

    @Says(at = "Terms 1", words = "KNOWS (a set of FACTS; none at first)")
    static void knowsNoneAtFirst(Due due) {
        PalmJury x = new PalmJury();
        x.juror(0, 0, 0);
        x.set(0, 2, 255);
        x.juror(0, 0, 0);
        due.is("none, whatever another one knows", x.told(1, 2), 0);
        x.keep();
        x.juror(0, 0, 0);
        x.set(2, 2, 255);
        x.back();
        x.juror(0, 0, 0);
        due.is("none, whatever an earlier one knew", x.told(2, 2), 0);
    }

    @Says(at = "Terms 1", words = "DOUBT 0 .. 40")
    static void doubts(Due due) {
        PalmJury x = new PalmJury();
        due.row("doubts", new long[] {0, 1, BAD, BAD, BAD, BAD}, x.juror(0, 0, 0), x.juror(0, 0, 40), x.juror(0, 0, -1), x.juror(0, 0, 41),
            x.juror(0, 0, LOW), x.juror(0, 0, HIGH));
        due.row("told", new long[] {0, 40}, x.told(0, 3), x.told(1, 3));
    }

    @Says(at = "Terms 1", words = "PASSED (how many FACTS it passed on; 0 at first)")
    static void passedNoneAtFirst(Due due) {
        PalmJury x = Acts.plain(255, 0);
        x.keep();
        x.hours(20);
        due.row("all eight", new long[] {8, 0}, x.told(0, 4), x.told(1, 4));
        x.juror(0, 0, 0);
        due.is("a new one", x.told(2, 4), 0);
        x.set(2, 2, 255);
        x.set(1, 2, 0);
        x.hours(20);
        due.holds("it passes some", x.told(2, 4) > 0);
        x.back();
        x.deal(1);
        due.is("one by lot, whatever an earlier one passed", x.told(2, 4), 0);
    }

    @Says(at = "Terms 1", words = "and of KINDS: 0 JUROR; 1 DOUBTING, 2 SWAYED, 5 MUTE, under JUROR; 3 FOREMAN, under DOUBTING; 4 TWIN, under SWAYED (all are JURORS).")
    static void kindsUnderOneAnother(Due due) {
        int[][] under = {{0}, {0, 1}, {0, 2}, {0, 1, 3}, {0, 2, 4}, {0, 5}};
        for (int kind = 0; kind < 6; kind++) {
            PalmJury x = Acts.alone(kind, 9, 0);
            boolean[] of = new boolean[6];
            for (int above : under[kind]) {
                of[above] = true;
            }
            for (int asked = 0; asked < 6; asked++) {
                due.is(kind + " as " + asked, x.as(0, asked), of[asked] ? 9 : KIND);
            }
        }
    }

    @Says(at = "Terms 1", words = "FACTS 0 .. 7, each with WEIGHT -50 .. 50 (0 at first).")
    static void factsAndWeights(Due due) {
        PalmJury x = new PalmJury();
        for (int fact = 0; fact < 8; fact++) {
            due.row("weights of fact " + fact, new long[] {0, 50, -50, BAD, BAD, BAD, BAD, 3}, x.weigh(fact, 50), x.weigh(fact, -50),
                x.weigh(fact, 3), x.weigh(fact, 51), x.weigh(fact, -51), x.weigh(fact, LOW), x.weigh(fact, HIGH), x.weigh(fact, 0));
        }
        due.each("no such fact", BAD, x.weigh(-1, 0), x.weigh(8, 0), x.out(-1, 0), x.out(8, 0), x.weigh(LOW, 0), x.weigh(HIGH, 0));
    }

    @Says(at = "Terms 1", words = "BAR is 0 .. 100 (50 at first)")
    static void bar(Due due) {
        PalmJury x = new PalmJury();
        due.row("bar", new long[] {50, 50, 0, BAD, BAD, 100}, x.count(2), x.rule(0, 0), x.rule(0, 100), x.rule(0, -1), x.rule(0, 101), x.rule(0, 7));
    }

    @Says(at = "Terms 1", words = "SLIP 0 .. 100 (10)")
    static void slip(Due due) {
        PalmJury x = new PalmJury();
        due.row("slip", new long[] {10, 10, 0, BAD, BAD, 100}, x.count(3), x.rule(1, 0), x.rule(1, 100), x.rule(1, -1), x.rule(1, 101), x.rule(1, 7));
    }

    @Says(at = "Terms 1", words = "TURN 0 .. 9 (0).")
    static void turn(Due due) {
        PalmJury x = new PalmJury();
        due.row("turn", new long[] {0, 0, 9, BAD, BAD, 0}, x.count(4), x.rule(2, 9), x.rule(2, 0), x.rule(2, -1), x.rule(2, 10), x.rule(2, 7));
    }

    @Says(at = "Terms 1", words = "SLIPS (how many; 0 at first).")
    static void noSlipsAtFirst(Due due) {
        PalmJury x = Acts.plain(0, 0);
        x.rule(1, 100);
        due.is("at first", x.jury(2), 0);
        x.hours(3);
        due.is("they met once", x.jury(2), 1);
    }

    @Says(at = "Terms 1", words = "THE HOUR is 0 at first, 9999 at most.")
    static void lastHour(Due due) {
        PalmJury x = new PalmJury();
        due.is("at first", x.count(1), 0);
        Acts.toHour(x, 9998);
        due.row("one is left", new long[] {0, 9999, 0, 9999}, x.hours(2), x.count(1), x.hours(1), x.count(1));
    }

    @Says(at = "Terms 1", words = "BELIEVES: JUROR: what trust gives, held within 0 .. 100")
    static void trustIsHeld(Due due) {
        String[] texts = {"0", "1", "100", "99", "101", "9999", "0-1", "0-9999", "9999*9999*9999"};
        int[] held = {0, 1, 100, 99, 100, 100, 0, 0, 0};
        for (int i = 0; i < texts.length; i++) {
            PalmJury x = Acts.alone(0, 3, 20);
            Acts.text(x, "trust " + texts[i]);
            due.is("trust " + texts[i], x.told(0, 5), held[i]);
        }
    }

    @Says(at = "Terms 1", words = "(without a TEXT: 50 and WEIGHTS of all FACTS that it KNOWS, together, held likewise)")
    static void weightsAreHeld(Due due) {
        int[] weights = {0, 49, 50, -49, -50};
        for (int weight : weights) {
            due.is("weight " + weight, Acts.alone(0, 0, weight).told(0, 5), 50 + weight);
        }
        PalmJury x = Acts.plain(255);
        int[] sums = {51, -51, 400, -400, 50, -50};
        int[] held = {100, 0, 100, 0, 100, 0};
        for (int i = 0; i < sums.length; i++) {
            for (int fact = 0; fact < 8; fact++) {
                x.weigh(fact, fact < 7 ? sums[i] / 8 : sums[i] - 7 * (sums[i] / 8));
            }
            due.is("together " + sums[i], x.told(0, 5), held[i]);
        }
        x.set(0, 2, 0);
        due.is("none", x.told(0, 5), 50);
    }

    @Says(at = "Terms 1", words = "DOUBTING: as JUROR, less DOUBT (0 at least).")
    static void doubtingBelieves(Due due) {
        int[] doubts = {0, 29, 30, 31, 40};
        int[] believed = {30, 1, 0, 0, 0};
        for (int i = 0; i < doubts.length; i++) {
            due.is("30 less " + doubts[i], Acts.alone(1, doubts[i], -20).told(0, 5), believed[i]);
        }
        PalmJury x = Acts.alone(1, 40, 50);
        x.set(0, 2, 3);
        x.weigh(1, 50);
        due.is("held ahead of DOUBT", x.told(0, 5), 60);
    }

    @Says(at = "Terms 1", words = "FOREMAN: the middle (cut) of as DOUBTING and 50.")
    static void foremanBelieves(Due due) {
        due.row("of 0, 1, 2, 37, 49, 50, 51, 100", new long[] {25, 25, 26, 43, 49, 50, 50, 75},
            Acts.alone(3, 40, -50).told(0, 5), Acts.alone(3, 0, -49).told(0, 5), Acts.alone(3, 0, -48).told(0, 5),
            Acts.alone(3, 13, 0).told(0, 5), Acts.alone(3, 1, 0).told(0, 5), Acts.alone(3, 0, 0).told(0, 5),
            Acts.alone(3, 0, 1).told(0, 5), Acts.alone(3, 0, 50).told(0, 5));
    }

    private static final int[] SWAYING = {0, 1, -1, 39, 40, 41, 50, -39, -40, -41, -50};
    private static final int[] SWAYED = {50, 61, 39, 99, 100, 100, 100, 1, 0, 0, 0};

    @Says(at = "Terms 1", words = "SWAYED: as JUROR, and 10, if that is above 50, less 10, if it is below (held within 0 .. 100).")
    static void swayedBelieves(Due due) {
        for (int i = 0; i < SWAYING.length; i++) {
            due.is("weight " + SWAYING[i], Acts.alone(2, 40, SWAYING[i]).told(0, 5), SWAYED[i]);
        }
    }

    @Says(at = "Terms 1", words = "TWIN: 100 less as SWAYED.")
    static void twinBelieves(Due due) {
        for (int i = 0; i < SWAYING.length; i++) {
            due.is("weight " + SWAYING[i], Acts.alone(4, 40, SWAYING[i]).told(0, 5), 100 - SWAYED[i]);
        }
    }

    @Says(at = "Terms 1", words = "MUTE: as JUROR.")
    static void muteBelieves(Due due) {
        due.row("as a juror", new long[] {100, 51, 50, 49, 0}, Acts.alone(5, 40, 50).told(0, 5), Acts.alone(5, 40, 1).told(0, 5),
            Acts.alone(5, 40, 0).told(0, 5), Acts.alone(5, 40, -1).told(0, 5), Acts.alone(5, 40, -50).told(0, 5));
    }

    @Says(at = "Terms 1", words = "GUILTY: if what it BELIEVES is BAR or more.")
    static void guilty(Due due) {
        int[] weights = {-50, -49, 0, 49, 50};
        for (int weight : weights) {
            PalmJury x = Acts.alone(0, 0, weight);
            for (int bar = 0; bar <= 100; bar++) {
                x.rule(0, bar);
                due.is(50 + weight + " by " + bar, x.told(0, 6), 50 + weight >= bar ? 1 : 0);
            }
        }
    }

    @Says(at = "Terms 1", words = "TELLS to another one: JUROR: of what it KNOWS and the other one does not the least FACT.")
    static void jurorTells(Due due) {
        PalmJury x = Acts.plain(255, 0);
        int[] known = {0, 1, 127, 254, 129, 255};
        int[] told = {0, 1, 7, 0, 1, NONE};
        for (int i = 0; i < known.length; i++) {
            x.set(1, 2, known[i]);
            due.is("to one that knows " + known[i], x.tells(0, 1), told[i]);
        }
        x.set(0, 2, 0);
        x.set(1, 2, 0);
        due.is("knows nothing", x.tells(0, 1), NONE);
    }

    @Says(at = "Terms 1", words = "DOUBTING: the greatest.")
    static void doubtingTells(Due due) {
        for (int kind = 1; kind <= 3; kind += 2) {
            PalmJury x = Acts.jury(new int[] {kind, 0}, new int[] {255, 0});
            int[] known = {0, 128, 254, 127, 129, 255};
            int[] told = {7, 6, 0, 7, 6, NONE};
            for (int i = 0; i < known.length; i++) {
                x.set(1, 2, known[i]);
                due.is("kind " + kind + " to one that knows " + known[i], x.tells(0, 1), told[i]);
            }
        }
    }

    @Says(at = "Terms 1", words = "SWAYED: as JUROR, but only such with WEIGHT above 0.")
    static void swayedTells(Due due) {
        for (int kind = 2; kind <= 4; kind += 2) {
            PalmJury x = Acts.jury(new int[] {kind, 0}, new int[] {255, 0});
            due.is("no weights", x.tells(0, 1), NONE);
            x.weigh(0, -50);
            x.weigh(3, -1);
            due.is("weights below 0", x.tells(0, 1), NONE);
            x.weigh(7, 1);
            due.is("fact 7", x.tells(0, 1), 7);
            x.weigh(4, 50);
            due.is("the lesser one", x.tells(0, 1), 4);
            x.weigh(0, 1);
            due.is("fact 0", x.tells(0, 1), 0);
            x.set(1, 2, 17);
            due.is("what the other one does not know", x.tells(0, 1), 7);
            x.set(0, 2, 127);
            due.is("what it knows", x.tells(0, 1), NONE);
        }
    }

    @Says(at = "Terms 1", words = "MUTE: nothing. (FOREMAN as DOUBTING, TWIN as SWAYED.)")
    static void muteTells(Due due) {
        PalmJury x = Acts.jury(new int[] {5, 0}, new int[] {255, 0});
        for (int fact = 0; fact < 8; fact++) {
            x.weigh(fact, 50);
        }
        due.is("now", x.tells(0, 1), NONE);
        due.row("in hours", new long[] {0, 0, 0}, x.hours(10), x.told(0, 4), x.told(1, 2));
    }

    @Says(at = "Terms 1", words = "WORTH: JUROR: DOUBT. DOUBTING: as JUROR, and 5. FOREMAN: twice as DOUBTING. SWAYED: 99 less DOUBT. TWIN: as SWAYED, less 7. MUTE: 2.")
    static void worths(Due due) {
        int[] least = {0, 5, 99, 10, 92, 2};
        int[] most = {40, 45, 59, 90, 52, 2};
        for (int kind = 0; kind < 6; kind++) {
            due.is("kind " + kind + " with DOUBT 0", Acts.alone(kind, 0, 7).told(0, 8), least[kind]);
            due.is("kind " + kind + " with DOUBT 40", Acts.alone(kind, 40, 7).told(0, 8), most[kind]);
        }
    }

    @Says(at = "Terms 1", words = "(A KIND that is not named does as the one above it.)")
    static void asTheOneAbove(Due due) {
        PalmJury x = Acts.jury(new int[] {3, 4, 0}, new int[] {0b1110, 0b1111, 0});
        x.weigh(1, 1);
        x.weigh(2, 1);
        // In hour 0 the twin meets the plain one, in hour 2 the foreman does.
        due.row("the twin", new long[] {1, 0b0010}, x.hours(1), x.told(2, 2));
        due.row("the foreman", new long[] {1, 0b1010, 1}, x.hours(2), x.told(2, 2), x.told(0, 4));
    }

    @Says(at = "Terms 1", words = "PAIRED in an hour: with n JURORS, the JUROR i is with the one with the number (THE HOUR and TURN, less i) modulo n (0 .. n less 1)")
    static void pairedByModulo(Due due) {
        PalmJury x = Acts.plain(0, 0, 0);
        due.row("below 0 in hour 0", new long[] {0, 2, 1}, x.told(0, 7), x.told(1, 7), x.told(2, 7));
        x.hours(1);
        due.row("in hour 1", new long[] {1, 0, 2}, x.told(0, 7), x.told(1, 7), x.told(2, 7));
        x.rule(2, 9);
        due.row("in hour 1 with TURN 9", new long[] {1, 0, 2}, x.told(0, 7), x.told(1, 7), x.told(2, 7));
        x.rule(2, 8);
        due.row("in hour 1 with TURN 8", new long[] {0, 2, 1}, x.told(0, 7), x.told(1, 7), x.told(2, 7));
        Acts.toHour(x, 9999);
        x.rule(2, 9);
        due.row("in hour 9999 with TURN 9", new long[] {0, 2, 1}, x.told(0, 7), x.told(1, 7), x.told(2, 7));
        x.deal(7);
        for (int i = 0; i < 10; i++) {
            due.is("ten in hour 9999 with TURN 9", x.told(i, 7), (18 - i) % 10);
        }
    }

    @Says(at = "Terms 1", words = "one that is with itself rests.")
    static void restsWithItself(Due due) {
        PalmJury one = Acts.plain(255);
        due.row("one alone", new long[] {0, 0, 1, 0}, one.told(0, 7), one.hours(100), one.count(9), one.told(0, 4));
        PalmJury two = Acts.plain(255, 0);
        due.row("two in hour 0", new long[] {0, 1, 0, 1}, two.told(0, 7), two.told(1, 7), two.hours(1), two.count(9));
        due.row("two in hour 1", new long[] {1, 0, 1, Acts.drawn(1)}, two.told(0, 7), two.told(1, 7), two.hours(1), two.count(9));
    }

    // ---- 2

    @Says(at = "Terms 2", words = "SHOWN: a FACT comes to KNOWS of all with SIDE 0. SAID: of all with SIDE 1.")
    static void shownAndSaid(Due due) {
        PalmJury x = Acts.plain(0, 0, 0);
        due.row("to all of a side", new long[] {2, 1, 1, 128, 1}, x.out(0, 0), x.out(7, 1), x.told(0, 2), x.told(1, 2), x.told(2, 2));
        x.set(1, 1, 0);
        due.row("nobody hears", new long[] {0, 129}, x.out(1, 1), x.jury(4));
        due.row("no juror", new long[] {0, 0}, new PalmJury().out(0, 0), new PalmJury().out(7, 1));
    }

    /** The first seed from a number on whose draw has this rest by 100. */
    private static int seedWithRest(int rest, int from) {
        int seed = from;
        while ((Acts.drawn(seed) >>> 8) % 100 != rest) {
            seed++;
        }
        return seed;
    }

    @Says(at = "Terms 2", words = "a draw; if its rest by 100 is below SLIP, nothing is passed (SLIPS is 1 more)")
    static void slipsBelow(Due due) {
        int[] rests = {0, 1, 50, 98, 99};
        for (int rest : rests) {
            for (int slip = Math.max(0, rest - 1); slip <= Math.min(100, rest + 2); slip++) {
                PalmJury x = Acts.plain(1, 0);
                x.rule(2, 1);
                x.rule(1, slip);
                x.seed(seedWithRest(rest, 0));
                boolean slips = rest < slip;
                due.row("rest " + rest + ", SLIP " + slip, new long[] {slips ? 0 : 1, slips ? 1 : 0, slips ? 0 : 1, slips ? 0 : 1, 1},
                    x.hours(1), x.jury(2), x.told(1, 2), x.told(0, 4), x.count(1));
            }
        }
        for (int seed = -3; seed < 40; seed++) {
            PalmJury x = Acts.plain(1, 0);
            x.rule(2, 1);
            x.seed(seed);
            due.is("SLIP 0 is never", x.hours(1), 1);
            x.rule(1, 100);
            x.set(1, 2, 0);
            due.is("SLIP 100 is always", x.hours(2), 0);
        }
    }

    @Says(at = "Terms 2", words = "AN HOUR: for all two that are PAIRED, by the lesser number")
    static void drawsByTheLesserNumber(Due due) {
        for (int slipsFirst = 0; slipsFirst < 2; slipsFirst++) {
            int seed = 0;
            while (slipsAt50(Acts.drawn(seed)) != (slipsFirst == 1) || slipsAt50(Acts.drawn(Acts.drawn(seed))) == (slipsFirst == 1)) {
                seed++;
            }
            // With TURN 3 in hour 0: 0 with 3, then 1 with 2.
            PalmJury x = Acts.plain(0, 0, 1, 1);
            x.rule(1, 50);
            x.rule(2, 3);
            x.seed(seed);
            due.row("one pair slips", new long[] {1, 1, 1 - slipsFirst, slipsFirst}, x.hours(1), x.jury(2), x.told(0, 2), x.told(1, 2));
        }
        PalmJury odd = Acts.plain(0, 0, 0, 0, 0);
        odd.hours(1);
        due.is("one rests: two draws", odd.count(9), zAfterDraws(2));
    }

    private static boolean slipsAt50(int z) {
        return (z >>> 8) % 100 < 50;
    }

    @Says(at = "Terms 2", words = "nothing is passed (SLIPS is 1 more); else each of them TELLS the other one a FACT, if it has one to tell (both by what they KNOW ahead of it): it KNOWS it then; PASSED of the one that told it is 1 more.")
    static void tellsIfThereIsOne(Due due) {
        int[][] ahead = {{0, 0}, {1, 1}, {3, 1}, {1, 3}, {5, 3}, {255, 0}, {1, 2}};
        int[][] then = {{0, 0, 0, 0}, {1, 1, 0, 0}, {3, 3, 1, 0}, {3, 3, 0, 1}, {7, 7, 1, 1}, {255, 1, 1, 0}, {3, 3, 1, 1}};
        for (int i = 0; i < ahead.length; i++) {
            PalmJury x = Acts.plain(ahead[i]);
            x.rule(2, 1);
            due.is("how many " + i, x.hours(1), then[i][2] + then[i][3]);
            due.row("then " + i, new long[] {then[i][0], then[i][1], then[i][2], then[i][3]}, x.told(0, 2), x.told(1, 2), x.told(0, 4), x.told(1, 4));
        }
    }

    @Says(at = "Terms 2", words = "THE HOUR is 1 more.")
    static void anHourMore(Due due) {
        PalmJury x = new PalmJury();
        due.row("without jurors too", new long[] {0, 1, 0, 101}, x.hours(1), x.count(1), x.hours(100), x.count(1));
    }

    @Says(at = "Terms 2", words = "z is told (1 at first). A draw: z becomes z * 1103515245 + 12345 (an int); it gives z >>> 8.")
    static void drawsWrap(Due due) {
        int[] seeds = {1, 0, -1, HIGH, LOW, 123456789, -987654321, 2, 65536};
        due.is("at first", new PalmJury().count(9), 1);
        for (int seed : seeds) {
            PalmJury x = new PalmJury();
            x.seed(seed);
            x.deal(1);
            long z = seed & 0xFFFFFFFFL;
            int[] by = {6, 2, 256, 30};
            for (int what = 0; what < 4; what++) {
                z = java.math.BigInteger.valueOf(z).multiply(java.math.BigInteger.valueOf(1103515245)).add(java.math.BigInteger.valueOf(12345))
                    .mod(java.math.BigInteger.ONE.shiftLeft(32)).longValue();
                due.is("seed " + seed + ", draw " + what, x.told(0, what), z / 256 % by[what]);
            }
            due.is("z behind seed " + seed, x.count(9) & 0xFFFFFFFFL, z);
        }
    }

    @Says(at = "Terms 2", words = "JURORS that are drawn: KIND the rest of a draw by 6, SIDE that of one more by 2, KNOWS the rest by 256 of one more, DOUBT that of one more by 30.")
    static void drawnAtTheEdges(Due due) {
        int[] by = {6, 2, 256, 30};
        for (int what = 0; what < 4; what++) {
            for (int rest = 0; rest < by[what]; rest += by[what] - 1) {
                int seed = 0;
                while (restOfDraw(seed, what) % by[what] != rest) {
                    seed++;
                }
                PalmJury x = new PalmJury();
                x.seed(seed);
                x.deal(1);
                due.row("rest " + rest + " by " + by[what], new long[] {rest, 0, 0}, x.told(0, what), x.told(0, 4), x.jury(2));
            }
        }
    }

    private static int restOfDraw(int seed, int ahead) {
        int z = seed;
        for (int i = 0; i <= ahead; i++) {
            z = Acts.drawn(z);
        }
        return z >>> 8;
    }

    // ---- 5

    @Says(at = "Terms 5", words = "SHEETS 0 .. 3 are rows of shorts (sort 0) or floats (1; whole numbers), with 0 to 24 places, or MISSING (at first).")
    static void sheets(Due due) {
        PalmJury x = new PalmJury();
        for (int sheet = 0; sheet < 4; sheet++) {
            due.each("missing at first", NOTHING, x.reads(sheet), x.pour(sheet), x.weighed(sheet, 0), x.mark(sheet, 0, 0), x.lay(0, 2, sheet));
            for (int sort = 0; sort < 2; sort++) {
                due.row("places", new long[] {0, 24, BAD, SIZE}, x.sheet(sheet, sort, 0), x.sheet(sheet, sort, 24), x.sheet(sheet, sort, 25),
                    x.sheet(sheet, sort, -1));
                due.row("marks", new long[] {1, 1, INDEX, INDEX}, x.mark(sheet, 0, 3), x.mark(sheet, 23, 3), x.mark(sheet, 24, 3), x.mark(sheet, -1, 3));
            }
        }
        due.each("no such sheet", BAD, x.sheet(-1, 0, 1), x.sheet(4, 0, 1), x.reads(-1), x.reads(4), x.pour(LOW), x.pour(HIGH));
        due.each("no such sort", BAD, x.sheet(0, -2, 1), x.sheet(0, 2, 1), x.sheet(0, LOW, 1), x.sheet(0, HIGH, 1));
    }

    @Says(at = "Terms 5", words = "A place of floats may be NO NUMBER.")
    static void noNumber(Due due) {
        PalmJury x = new PalmJury();
        x.sheet(0, 1, 2);
        due.row("of floats", new long[] {1, KIND, 0}, x.mark(0, 0, NONE), Acts.place(x, 0, 0), Acts.place(x, 0, 1));
        x.sheet(0, 0, 2);
        due.row("of shorts not", new long[] {KIND, 0}, x.mark(0, 0, NONE), Acts.place(x, 0, 0));
    }

    @Says(at = "Terms 5", words = "SLOTS 0 .. 4 each hold nothing (at first)")
    static void slots(Due due) {
        PalmJury x = new PalmJury();
        for (int slot = 0; slot < 5; slot++) {
            due.each("at first", NOTHING, x.ask(slot, 0), x.item(slot, 0), x.rest(slot, 1));
            due.row("a number of its own", new long[] {0, slot}, x.lay(slot, 3, slot + 10), x.rest(slot, 10));
        }
        for (int slot = 0; slot < 5; slot++) {
            due.is("each by itself", x.rest(slot, 10), slot);
        }
        due.each("no such slot", BAD, x.lay(-1, 0, 0), x.lay(5, 0, 0), x.ask(-1, 0), x.ask(5, 0), x.item(-1, 0), x.item(5, 0), x.rest(-1, 1), x.rest(5, 1));
    }

    @Says(at = "Terms 5", words = "a JUROR (as it is then, for good), a SHEET (a row of its own, as it was then), or a number.")
    static void slotsHoldForGood(Due due) {
        PalmJury x = Acts.alone(3, 8, 0);
        x.keep();
        x.sheet(0, 1, 2);
        Acts.mark(x, 0, 4, 5);
        x.lay(0, 1, 0);
        x.lay(1, 2, 0);
        x.lay(2, 2, 0);
        x.set(0, 3, 40);
        x.turns(0, 5);
        x.mark(0, 0, 9);
        due.row("changed since", new long[] {26, 26, KIND, 4, 5, 4}, x.ask(0, 0), x.ask(0, 3), x.ask(0, 5), x.item(1, 0), x.item(1, 1), x.item(2, 0));
        x.sheet(0, -1, 0);
        x.back();
        due.row("gone since", new long[] {26, 4, INDEX}, x.ask(0, 1), x.item(1, 0), x.item(1, 2));
        x.sheet(0, 0, 24);
        due.row("anew since", new long[] {4, 5, INDEX}, x.item(1, 0), x.item(1, 1), x.item(1, 2));
    }

    @Says(at = "Terms 5", words = "FINDINGS: NOTHING: a SHEET is MISSING, a SLOT holds nothing")
    static void findsNothing(Due due) {
        PalmJury x = new PalmJury();
        x.sheet(1, 0, 1);
        x.sheet(2, 0, 1);
        x.sheet(2, -1, 1);
        x.lay(1, 3, 4);
        x.lay(1, 0, 4);
        due.each("a sheet", NOTHING, x.weighed(0, 0), x.mark(0, 0, 0), x.pour(0), x.reads(0), x.copy(0, 0, 1, 0, 0), x.copy(1, 0, 0, 0, 0),
            x.lay(0, 2, 0), x.reads(2));
        due.each("a slot", NOTHING, x.ask(0, 0), x.item(0, 0), x.rest(0, 0), x.ask(1, 0), x.item(1, 0), x.rest(1, 1));
    }

    @Says(at = "Terms 5", words = "INDEX: there is no such place")
    static void findsNoPlace(Due due) {
        PalmJury x = new PalmJury();
        x.sheet(0, 0, 24);
        x.sheet(1, 0, 0);
        x.lay(0, 2, 0);
        x.lay(1, 2, 1);
        due.each("none", INDEX, x.mark(0, 24, 0), x.mark(0, -1, 0), x.mark(1, 0, 0), x.item(0, 24), x.item(0, -1), x.item(1, 0), x.item(0, LOW),
            x.item(0, HIGH), x.copy(0, 24, 0, 0, 1), x.copy(0, 0, 0, 24, 1), x.copy(1, 0, 0, 0, 1));
        due.row("the last", new long[] {1, 0, 1}, x.mark(0, 23, 5), x.item(0, 23), x.copy(0, 23, 0, 0, 1));
    }

    @Says(at = "Terms 5", words = "SIZE: a number of places is below 0")
    static void findsSize(Due due) {
        PalmJury x = new PalmJury();
        due.each("below 0", SIZE, x.sheet(0, 0, -1), x.sheet(3, 1, -1), x.sheet(0, 0, LOW));
        due.each("missing still", NOTHING, x.reads(0), x.reads(3));
        due.is("0 is none below", x.sheet(0, 0, 0), 0);
    }

    @Says(at = "Terms 5", words = "KIND: it is none (of a KIND, a number, or another thing).")
    static void findsKind(Due due) {
        PalmJury x = Acts.alone(1, 0, 0);
        x.sheet(0, 0, 1);
        x.sheet(1, 1, 1);
        x.mark(1, 0, NONE);
        x.lay(0, 1, 0);
        x.lay(1, 2, 1);
        x.lay(2, 3, 0);
        due.each("of a kind", KIND, x.as(0, 2), x.as(0, 3), x.ask(0, 2), x.ask(0, 3), x.copy(0, 0, 1, 0, 1), x.copy(1, 0, 0, 0, 1));
        due.each("a number", KIND, x.mark(0, 0, NONE), x.item(1, 0), x.rest(0, 1), x.rest(1, 1));
        due.each("another thing", KIND, x.ask(1, 0), x.ask(2, 0), x.item(0, 0), x.item(2, 0));
    }

    @Says(at = "Terms 5", words = "AN IMAGE keeps all but SHEETS, SLOTS, numbers that wait, THE TAPE")
    static void imageKeepsAllBut(Due due) {
        PalmJury x = new PalmJury();
        x.keep();
        x.sheet(0, 1, 2);
        Acts.mark(x, 0, 6, NONE);
        x.lay(0, 3, 8);
        Acts.tell(x, 1, 2);
        x.feed(0, 0, 0);
        x.deal(10);
        x.seed(5);
        x.weigh(7, 7);
        x.rule(0, 1);
        x.rule(1, 2);
        x.rule(2, 3);
        x.hours(9);
        due.is("back", x.back(), 0);
        due.row("not these", new long[] {6, KIND, 3, 2, 12}, Acts.place(x, 0, 0), Acts.place(x, 0, 1), x.rest(0, 5), x.count(7), x.count(8));
        due.row("all others", new long[] {0, 0, 50, 10, 0, 0, 0, 1, 0, 0}, x.count(0), x.count(1), x.count(2), x.count(3), x.count(4), x.count(5),
            x.count(6), x.count(9), x.jury(2), x.weigh(7, 0));
    }

    @Says(at = "Terms 5", words = "AN IMAGE keeps all but")
    static void imageKeepsAllOfTheLastJuror(Due due) {
        PalmJury x = Acts.jury(new int[] {5, 5, 5, 5, 5, 5, 5, 5, 5, 1}, new int[] {0, 0, 0, 0, 0, 0, 0, 0, 0, 200});
        x.set(9, 3, 33);
        x.hours(7);
        x.weigh(7, 31);
        long passed = x.told(9, 4);
        due.holds("it passed some", passed > 0);
        x.keep();
        x.hours(7);
        x.turns(9, 0);
        x.set(9, 1, 0);
        x.set(9, 2, 3);
        x.set(9, 3, 4);
        x.weigh(7, 0);
        x.back();
        due.row("as it was", new long[] {1, 1, 200, 33, passed, 48}, x.told(9, 0), x.told(9, 1), x.told(9, 2), x.told(9, 3), x.told(9, 4), x.told(9, 5));
    }

    @Says(at = "Terms 5", words = "all can become as it is (again and again).")
    static void backAgainAndAgain(Due due) {
        PalmJury x = Acts.plain(255, 0, 0);
        x.rule(1, 30);
        Acts.text(x, "fee 8");
        x.keep();
        for (int again = 0; again < 3; again++) {
            x.hours(10 + again);
            x.turns(0, 5);
            x.set(1, 1, 0);
            x.set(2, 3, 40);
            x.juror(1, 1, 1);
            due.is("a text", Acts.text(x, again == 1 ? "fine 1" : "fee 9"), 1);
            due.is("back", x.back(), 3);
            due.row("as it was", new long[] {0, 3, 1, 0, 1, 0, 255, 0, 0, 8, 0, NONE}, x.count(1), x.count(0), x.count(6), x.told(0, 0), x.told(1, 1),
                x.told(2, 3), x.jury(4), x.told(0, 4), x.jury(2), x.fee(), x.why(1), x.why(2));
        }
    }

    @Says(at = "Terms 5", words = "THE HOURS TOLD: of n HOURS, one behind the other, by THE IMAGE: how many FACTS are known, of all JURORS, together; VOTES, behind each.")
    static void hoursTold(Due due) {
        // Hour 0: both rest; hour 1: they meet; fact 0 makes guilty.
        PalmJury x = Acts.plain(1, 0);
        x.rule(0, 60);
        x.weigh(0, 10);
        x.keep();
        x.set(1, 2, 255);
        x.weigh(0, -10);
        x.hours(7);
        Acts.tell(x, 1, 1, 2, 2, 2, 2);
        due.is("by the image", x.check(3), 0);
        for (int wrong : List.of(0, 1, 2, 3, 4, 5)) {
            int[] row = {1, 1, 2, 2, 2, 2};
            row[wrong]--;
            Acts.tell(x, row);
            due.is("wrong behind " + wrong, x.check(3), 1 + wrong);
        }
    }
}
