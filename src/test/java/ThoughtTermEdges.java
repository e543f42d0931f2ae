/** Edges that the terms name: of what is common, and of what is only thought. */
final class ThoughtTermEdges {
    private static final int NONE = PalmJury.NONE;

    private ThoughtTermEdges() {
    }

    @Says(at = "Terms 3", words = "COMMON: FACTS that all KNOW (all 8, if there are no JURORS).")
    static void common(Due due) {
        PalmJury x = new PalmJury();
        due.row("no jurors", new long[] {255, 255, 255}, x.jury(0), x.behind(100, 0), x.sure(60));
        x.juror(0, 0, 0);
        due.row("one that knows none", new long[] {0, 0, 0}, x.jury(0), x.behind(100, 0), x.sure(60));
        x.set(0, 2, 255);
        due.is("one that knows all", x.jury(0), 255);
        PalmJury ten = Acts.plain(255, 255, 255, 255, 255, 255, 255, 255, 255, 126);
        due.is("all but what the last does not know", ten.jury(0), 126);
    }

    @Says(at = "Terms 3", words = "VOTES: how many are GUILTY.")
    static void votes(Due due) {
        due.is("no jurors", new PalmJury().jury(1), 0);
        PalmJury x = Acts.plain(0, 0, 0, 0, 0, 0, 0, 0, 0, 1);
        x.weigh(0, 1);
        due.is("all ten", x.jury(1), 10);
        x.rule(0, 51);
        due.is("the last", x.jury(1), 1);
        x.rule(0, 52);
        due.is("none", x.jury(1), 0);
    }

    @Says(at = "Terms 3", words = "without the bound of THE HOUR")
    static void thoughtGoesBeyondTheLastHour(Due due) {
        // In hour 9999 juror 0 rests, and 1 meets 2; an hour later 0 meets 1, then 0 meets 2.
        PalmJury x = Acts.plain(1, 1, 0);
        x.rule(0, 60);
        x.weigh(0, 10);
        Acts.toHour(x, 9999);
        x.set(2, 2, 0);
        due.row("behind", new long[] {0, 1, 1, 3}, x.behind(0, 0), x.behind(1, 0), x.behind(100, 0), x.behind(1, 1));
        due.row("all know, best turn, sure", new long[] {1, 3, 1}, x.allKnow(), x.bestTurn(1, 1), x.sure(3));
        x.set(1, 2, 0);
        due.row("behind", new long[] {1, 1, 3}, x.behind(1, 1), x.behind(100, 0), x.behind(3, 1));
        due.row("all know, tipped", new long[] {3, 1}, x.allKnow(), x.tipped(3));
        x.set(0, 2, 0);
        due.row("advocate", new long[] {3, 0}, x.advocate(3, 1), x.advocate(3, 0));
        due.is("THE HOUR stays", x.count(1), 9999);
    }

    @Says(at = "Terms 3", words = "only thought, from now on")
    static void thoughtHasAllOfTheLastJuror(Due due) {
        // Nine are guilty by fact 7; the last, which hears and doubts, does not know it.
        PalmJury x = Acts.jury(new int[] {5, 5, 5, 5, 5, 5, 5, 5, 5, 1}, new int[] {128, 128, 128, 128, 128, 128, 128, 128, 128, 1});
        x.weigh(7, 30);
        x.rule(0, 77);
        x.set(9, 3, 3);
        due.row("fact 7 said, less 3", new long[] {15, 10, 9, 1}, x.advocate(0, 0), x.advocate(0, 1), x.behind(0, 1), x.behind(0, 12));
        x.set(9, 3, 4);
        due.row("fact 7 said, less 4", new long[] {0, 9}, x.advocate(0, 0), x.advocate(0, 1));
        x.set(9, 1, 0);
        x.set(9, 3, 3);
        due.row("fact 7 shown", new long[] {14, 10}, x.advocate(0, 0), x.advocate(0, 1));
        x.turns(9, 3);
        due.row("a foreman is not guilty", new long[] {0, 9}, x.advocate(0, 0), x.advocate(0, 1));
    }

    @Says(at = "Terms 3", words = "z as it is")
    static void thoughtDrawsFromZ(Due due) {
        for (int seed = 1; seed < 6; seed++) {
            PalmJury x = Acts.plain(255, 0, 15, 240);
            x.rule(1, 50);
            x.seed(seed);
            int slips = x.behind(9, 2);
            int knows = x.behind(9, 4);
            int common = x.behind(9, 0);
            due.is("z stays", x.count(9), seed);
            x.hours(9);
            due.row("so it comes, seed " + seed, new long[] {slips, knows, common}, x.jury(2), x.told(1, 2), x.jury(0));
        }
    }

    @Says(at = "Terms 3", words = "BEHIND n HOURS: COMMON; VOTES; SLIPS; KNOWS of a JUROR.")
    static void behind(Due due) {
        PalmJury x = Acts.plain(128, 0);
        x.rule(0, 60);
        x.weigh(7, 10);
        due.row("behind 0", new long[] {0, 1, 0, 128, 0}, x.behind(0, 0), x.behind(0, 1), x.behind(0, 2), x.behind(0, 3), x.behind(0, 4));
        due.row("behind 1", new long[] {0, 1, 0, 128, 0}, x.behind(1, 0), x.behind(1, 1), x.behind(1, 2), x.behind(1, 3), x.behind(1, 4));
        due.row("behind 2", new long[] {128, 2, 0, 128, 128}, x.behind(2, 0), x.behind(2, 1), x.behind(2, 2), x.behind(2, 3), x.behind(2, 4));
        x.rule(1, 100);
        due.row("behind 100", new long[] {0, 1, 50, 128, 0}, x.behind(100, 0), x.behind(100, 1), x.behind(100, 2), x.behind(100, 3), x.behind(100, 4));
        x.hours(2);
        due.is("slips that were count too", x.behind(2, 2), 2);
    }

    @Says(at = "Terms 3", words = "ALL KNOW: behind how many HOURS (0 .. 200) each JUROR KNOWS what any of them KNOWS now first.")
    static void allKnow(Due due) {
        due.row("already", new long[] {0, 0, 0}, new PalmJury().allKnow(), Acts.plain(3, 3).allKnow(), Acts.plain(0, 0, 0).allKnow());
        // Two jurors meet in every second hour, from hour 1 on, or with TURN 1 from hour 0 on; each meeting is a draw.
        PalmJury x = Acts.plain(1, 0);
        due.is("the first meeting", x.allKnow(), 2);
        x.rule(1, 99);
        x.seed(Acts.seedThatSlips(99));
        due.is("the hundredth meeting", x.allKnow(), 200);
        x.rule(2, 1);
        due.is("the hundredth meeting, an hour sooner", x.allKnow(), 199);
        x.seed(Acts.seedThatSlips(100));
        due.is("behind 201", x.allKnow(), NONE);
        x.rule(2, 0);
        due.is("behind 202", x.allKnow(), NONE);
        due.is("never", Acts.jury(new int[] {5, 0}, new int[] {1, 0}).allKnow(), NONE);
    }

    @Says(at = "Terms 3", words = "BEST TURN for n: the TURN 0 .. 9 with which most FACTS, of all JURORS, together, are known behind n HOURS")
    static void bestTurns(Due due) {
        // In hour 0 only TURN t pairs the one that knows, 0, with t.
        for (int turn = 1; turn < 10; turn++) {
            PalmJury x = Acts.jury(new int[] {0, 5, 5, 5, 5, 5, 5, 5, 5, 5}, new int[] {1, 1, 1, 1, 1, 1, 1, 1, 1, 1});
            x.set(turn, 2, 0);
            x.rule(2, 10 - turn);
            due.row("TURN " + turn, new long[] {turn, 10}, x.bestTurn(1, 0), x.bestTurn(1, 1));
        }
    }

    @Says(at = "Terms 3", words = "together, are known behind n HOURS; of several the least.")
    static void leastOfBestTurns(Due due) {
        PalmJury x = Acts.plain(1, 0);
        due.row("each odd one", new long[] {1, 2}, x.bestTurn(1, 0), x.bestTurn(1, 1));
        due.row("all ten", new long[] {0, 2}, x.bestTurn(2, 0), x.bestTurn(2, 1));
        x.rule(1, 100);
        x.rule(2, 5);
        due.row("all slip", new long[] {0, 1}, x.bestTurn(60, 0), x.bestTurn(60, 1));
        due.row("no jurors", new long[] {0, 0}, new PalmJury().bestTurn(1, 0), new PalmJury().bestTurn(60, 1));
    }

    @Says(at = "Terms 3", words = "SURE behind n: FACTS that are COMMON behind n HOURS, whichever one of JURORS never TELLS anything in them (each by itself")
    static void sureWhicheverIsSilent(Due due) {
        PalmJury x = Acts.plain(1, 0, 0);
        due.row("only the first one knows it", new long[] {1, 0}, x.behind(60, 0), x.sure(60));
        x.set(0, 2, 0);
        x.set(2, 2, 1);
        due.row("only the last one knows it", new long[] {1, 0}, x.behind(60, 0), x.sure(60));
        x.set(1, 2, 1);
        due.is("two know it", x.sure(60), 1);
        due.is("one may be silent, but not two", Acts.plain(1, 1, 0, 0).sure(60), 1);
        due.is("two are mute, one is silent", Acts.jury(new int[] {5, 0, 0, 0}, new int[] {1, 1, 0, 0}).sure(60), 0);
        due.is("one alone", Acts.plain(5).sure(60), 5);
    }

    @Says(at = "Terms 3", words = "; also if nobody is so).")
    static void sureAlsoIfNobodyIsSilent(Due due) {
        // Fact 4 comes to all behind 6 hours if any one of these is silent, and not if all pass on what they know.
        int[] kinds = {1, 1, 0};
        int[] knows = {37, 93, 242};
        int silent = 255;
        for (int mute = 0; mute < 3; mute++) {
            PalmJury x = Acts.jury(kinds, knows);
            x.turns(mute, 5);
            silent &= x.behind(6, 0);
        }
        PalmJury x = Acts.jury(kinds, knows);
        due.is("fact 4, if one is silent", silent & 16, 16);
        due.is("fact 4, if nobody is", x.behind(6, 0) & 16, 0);
        due.is("sure", x.sure(6), silent & ~16 & x.behind(6, 0));
    }

    @Says(at = "Terms 3", words = "ADVOCATE for n: the FACT and way (SHOWN 0, SAID 1) that, if it came out now, leaves most VOTES behind n HOURS")
    static void advocate(Due due) {
        for (int choice = 0; choice < 16; choice++) {
            PalmJury x = Acts.plain(0, 0);
            x.rule(0, 60);
            x.weigh(choice / 2, 10);
            // The juror on the other side knows it already.
            x.set(1 - choice % 2, 2, 1 << choice / 2);
            due.row("choice " + choice, new long[] {choice, 2}, x.advocate(0, 0), x.advocate(0, 1));
        }
        PalmJury all = Acts.plain(255, 255);
        Acts.text(all, "trust k*5");
        all.rule(0, 41);
        due.row("no ninth fact", new long[] {0, 0}, all.advocate(0, 0), all.advocate(0, 1));
        PalmJury worse = Acts.plain(0, 0);
        for (int fact = 0; fact < 8; fact++) {
            worse.weigh(fact, -1);
        }
        due.row("each takes a vote away", new long[] {0, 1}, worse.advocate(0, 0), worse.advocate(0, 1));
        due.is("and more behind hours", worse.advocate(2, 1), 0);
    }

    @Says(at = "Terms 3", words = "leaves most VOTES behind n HOURS; of several the least FACT, of these SHOWN.")
    static void leastOfAdvocates(Due due) {
        due.row("no jurors", new long[] {0, 0}, new PalmJury().advocate(60, 0), new PalmJury().advocate(60, 1));
        PalmJury x = Acts.plain(0, 0);
        x.rule(0, 60);
        due.row("none helps", new long[] {0, 0}, x.advocate(0, 0), x.advocate(0, 1));
        x.weigh(5, 10);
        due.row("shown or said", new long[] {10, 1}, x.advocate(0, 0), x.advocate(0, 1));
        x.weigh(2, 10);
        due.row("fact 2 or 5", new long[] {4, 1}, x.advocate(0, 0), x.advocate(0, 1));
        // The one that sees lacks fact 5, the one that hears fact 2.
        x.rule(0, 70);
        x.set(0, 2, 4);
        x.set(1, 2, 32);
        due.row("fact 2 said or 5 shown", new long[] {5, 1}, x.advocate(0, 0), x.advocate(0, 1));
    }

    @Says(at = "Terms 3", words = "TIPPED for n: JURORS without whose word (it never TELLS) VOTES behind n HOURS are others than with it.")
    static void tipped(Due due) {
        PalmJury x = Acts.plain(1, 0, 0);
        x.rule(0, 60);
        x.weigh(0, 10);
        due.is("fewer votes without it", x.tipped(3), 1);
        x.weigh(0, -10);
        x.rule(0, 50);
        due.is("more votes without it", x.tipped(3), 1);
        x.weigh(0, 0);
        due.is("as many", x.tipped(3), 0);
        // Fact 0 makes juror 1 guilty and the twin not: as many, but others, are guilty without the word of 0.
        PalmJury y = Acts.jury(new int[] {0, 0, 4}, new int[] {1, 0, 2});
        y.weigh(0, 10);
        y.weigh(1, -10);
        y.rule(0, 55);
        due.row("how many, not who", new long[] {2, 0}, y.behind(3, 1), y.tipped(3));
        y.hours(3);
        due.row("who", new long[] {1, 1, 0}, y.told(0, 6), y.told(1, 6), y.told(2, 6));
        due.is("no jurors", new PalmJury().tipped(60), 0);
    }

    @Says(at = "Terms 3", words = "WEIGHED by a SHEET: the FACT with whose WEIGHT 20 more (50 at most)")
    static void twentyMoreFiftyAtMost(Due due) {
        int[] weights = {-50, -10, 29, 30, 31, 49, 50};
        int[] then = {-30, 10, 49, 50, 50, 50, 50};
        for (int i = 0; i < weights.length; i++) {
            // The other fact takes 50 away, so that what is believed is not held at 100.
            PalmJury x = Acts.plain(3);
            x.weigh(0, weights[i]);
            x.weigh(1, -50);
            x.sheet(0, 1, 1);
            x.mark(0, 0, 9999);
            int asFact0 = 9999 - Math.max(0, then[i]);
            int asFact1 = 9999 - Math.max(0, weights[i] + 20);
            due.row("weight " + weights[i], new long[] {asFact0 <= asFact1 ? 0 : 1, Math.min(asFact0, asFact1)}, x.weighed(0, 0), x.weighed(0, 1));
            x.mark(0, 0, Math.max(0, then[i]));
            due.row("weight " + weights[i] + " to the point", new long[] {0, 0}, x.weighed(0, 0), x.weighed(0, 1));
        }
    }

    @Says(at = "Terms 3", words = "what JURORS k BELIEVE and places k that are numbers differ least (signs left out; places beyond all JURORS: 0), together")
    static void differences(Due due) {
        PalmJury x = Acts.plain(0, 0);
        x.sheet(0, 1, 4);
        Acts.mark(x, 0, 60, 40, 7, -8);
        due.is("more and less than 50, and beyond", x.weighed(0, 1), 10 + 10 + 7 + 8);
        Acts.mark(x, 0, NONE, 99999, NONE, -99999);
        due.is("no numbers, and the greatest", x.weighed(0, 1), 99949 + 99999);
        x.sheet(0, 1, 1);
        x.mark(0, 0, NONE);
        due.row("no number at all", new long[] {0, 0}, x.weighed(0, 0), x.weighed(0, 1));
        x.sheet(0, 0, 0);
        due.row("no place at all", new long[] {0, 0}, x.weighed(0, 0), x.weighed(0, 1));
        x.sheet(0, 0, 1);
        due.is("jurors beyond all places", x.weighed(0, 1), 50);
        x.sheet(0, 0, 24);
        x.mark(0, 23, -32768);
        due.is("the last place", x.weighed(0, 1), 100 + 32768);
        PalmJury nobody = new PalmJury();
        nobody.sheet(3, 0, 2);
        nobody.mark(3, 1, -5);
        due.row("no jurors", new long[] {0, 5}, nobody.weighed(3, 0), nobody.weighed(3, 1));
    }

    @Says(at = "Terms 3", words = "(signs left out; places beyond all JURORS: 0), together; of several the least.")
    static void leastOfWeighed(Due due) {
        PalmJury x = Acts.plain(0b10100000);
        x.sheet(0, 0, 1);
        x.mark(0, 0, 70);
        due.row("fact 5 or 7", new long[] {5, 0}, x.weighed(0, 0), x.weighed(0, 1));
        x.weigh(5, 50);
        x.weigh(7, -50);
        due.row("fact 7", new long[] {7, 0}, x.weighed(0, 0), x.weighed(0, 1));
        x.mark(0, 0, 50);
        due.row("all but fact 7", new long[] {0, 0}, x.weighed(0, 0), x.weighed(0, 1));
    }
}
