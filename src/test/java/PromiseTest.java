/** Each promise by itself: ordinary inputs, the edges that the document names, and wrong inputs. */
public final class PromiseTest {
    private static final int BAD = PalmJury.BAD, NO = PalmJury.NO, FULL = PalmJury.FULL, NONE = PalmJury.NONE,
        NOTHING = PalmJury.NOTHING, KIND = PalmJury.KIND, INDEX = PalmJury.INDEX, SIZE = PalmJury.SIZE;
    private static final int LOW = Acts.LOW, HIGH = Acts.HIGH;
    private static final Due due = new Due("PromiseTest");

    public static void main(String[] args) {
        promise1();
        promise2();
        promise3();
        promise3ByKind();
        promise4();
        promise5And6();
        promise7To9();
        promise10And11();
        promise12();
        promise13();
        promise13Slips();
        promise14();
        promise15();
        promise16();
        promise17();
        promise18();
        promise19();
        promise20();
        promise21();
        promise22And23();
        promise24And25();
        promise26Faults();
        promise26Worth();
        promise26Full();
        promise27And28();
        promise29();
        promise30();
        promise31();
        promise32();
        promise33();
        promise34();
        promise35();
        promise36();
        promise37();
        promise38();
        promise39();
        promise39Edges();
        promise40And41();
        promise42();
        due.close();
    }

    private static void is(String call, long got, long want) {
        due.is(call, got, want);
    }

    private static int text(PalmJury x, String s) {
        is("trim behind " + s, Acts.feedAll(x, s), s.length());
        int answer = x.text();
        is("the tape behind " + s, x.count(8), 0);
        return answer;
    }

    private static void promise1() {
        PalmJury x = new PalmJury();
        int[] counts = {0, 0, 50, 10, 0, 0, 0, 0, 0, 1};
        for (int i = 0; i < 10; i++) {
            is("1 count " + i, x.count(i), counts[i]);
        }
        for (int fact = 0; fact < 8; fact++) {
            is("1 weigh", x.weigh(fact, 1), 0);
        }
        for (int sheet = 0; sheet < 4; sheet++) {
            is("1 sheet", x.reads(sheet), NOTHING);
        }
        for (int slot = 0; slot < 5; slot++) {
            is("1 slot", x.rest(slot, 1), NOTHING);
        }
        for (int key = 0; key < 3; key++) {
            is("1 why", x.why(key), NONE);
        }
        is("1 slips", x.jury(2), 0);
        is("1 image", x.back(), NO);
    }

    private static void promise2() {
        PalmJury x = new PalmJury();
        is("2 kind", x.juror(-1, 0, 0), BAD);
        is("2 kind", x.juror(6, 0, 0), BAD);
        is("2 side", x.juror(0, -1, 0), BAD);
        is("2 side", x.juror(0, 2, 0), BAD);
        is("2 doubt", x.juror(0, 0, -1), BAD);
        is("2 doubt", x.juror(0, 0, 41), BAD);
        for (int i = 0; i < 10; i++) {
            is("2 juror", x.juror(i % 6, i % 2, i * 40 / 9), i);
            is("2 knows", x.told(i, 2), 0);
            is("2 passed", x.told(i, 4), 0);
            is("2 kind", x.told(i, 0), i % 6);
            is("2 side", x.told(i, 1), i % 2);
            is("2 doubt", x.told(i, 3), i * 40 / 9);
        }
        is("2 full", x.juror(0, 0, 0), FULL);
        is("2 bad first", x.juror(6, 0, 0), BAD);
        is("2 count", x.count(0), 10);
    }

    private static void promise3() {
        PalmJury x = Acts.jury(new int[] {0, 0, 0}, new int[] {1, 2, 4});
        is("3 juror", x.told(-1, 0), BAD);
        is("3 juror", x.told(3, 0), BAD);
        is("3 what", x.told(0, -1), BAD);
        is("3 what", x.told(0, 9), BAD);
        is("3 juror", x.told(HIGH, LOW), BAD);
        is("3 rests", x.told(0, 7), 0);
        is("3 paired", x.told(1, 7), 2);
        is("3 paired", x.told(2, 7), 1);
        x.rule(2, 9);
        x.hours(1);
        is("3 paired", x.told(0, 7), 1);
        is("3 paired", x.told(2, 7), 2);
        is("3 guilty", x.told(0, 6), 1);
        x.rule(0, 51);
        is("3 not guilty", x.told(0, 6), 0);
    }

    private static void promise3ByKind() {
        int[] weights = {30, -45, 50, 50, 0, 1, -1};
        // Of a set of facts what a juror of each kind believes, with doubt 13.
        int[][] sets = {
            {0, 50, 37, 50, 43, 50, 50},
            {1, 80, 67, 90, 58, 10, 80},
            {2, 5, 0, 0, 25, 100, 5},
            {3, 35, 22, 25, 36, 75, 35},
            {4, 100, 87, 100, 68, 0, 100},
            {13, 100, 87, 100, 68, 0, 100},
            {16, 50, 37, 50, 43, 50, 50},
            {32, 51, 38, 61, 44, 39, 51},
            {64, 49, 36, 39, 43, 61, 49},
        };
        int[] worths = {13, 18, 86, 36, 79, 2};
        for (int kind = 0; kind < 6; kind++) {
            PalmJury x = new PalmJury();
            x.juror(kind, 0, 13);
            for (int fact = 0; fact < weights.length; fact++) {
                x.weigh(fact, weights[fact]);
            }
            for (int[] row : sets) {
                x.set(0, 2, row[0]);
                is("3 kind " + kind + " believes with " + row[0], x.told(0, 5), row[1 + kind]);
            }
            is("3 worth of kind " + kind, x.told(0, 8), worths[kind]);
            x.set(0, 3, 40);
            is("3 worth with most doubt", x.told(0, 8), new int[] {40, 45, 59, 90, 52, 2}[kind]);
        }
    }

    private static void promise4() {
        int[] least = {1, 5, 3, 5, 3, NONE};
        for (int kind = 0; kind < 6; kind++) {
            PalmJury x = Acts.jury(new int[] {kind, 0}, new int[] {0b101011, 0b000001});
            x.weigh(3, 1);
            x.weigh(1, -1);
            x.weigh(0, 9);
            is("4 kind " + kind, x.tells(0, 1), least[kind]);
            is("4 the other way", x.tells(1, 0), NONE);
            x.set(1, 2, 0);
            is("4 all", x.tells(0, 1), new int[] {0, 5, 0, 5, 0, NONE}[kind]);
            x.set(1, 2, 0b101011);
            is("4 the other one knows all", x.tells(0, 1), NONE);
            is("4 itself", x.tells(0, 0), BAD);
            is("4 one", x.tells(-1, 0), BAD);
            is("4 one", x.tells(2, 0), BAD);
            is("4 other", x.tells(0, -1), BAD);
            is("4 other", x.tells(0, 2), BAD);
        }
        PalmJury x = Acts.jury(new int[] {2, 1}, new int[] {255, 0});
        is("4 no weight is above 0", x.tells(0, 1), NONE);
        x.set(1, 2, 128);
        x.set(0, 2, 127);
        is("4 fact 7", x.tells(1, 0), 7);
        x.set(1, 2, 1);
        x.set(0, 2, 0);
        is("4 the greatest is 0", x.tells(1, 0), 0);
    }

    private static void promise5And6() {
        PalmJury x = new PalmJury();
        x.juror(0, 0, 8);
        boolean[][] under = {
            {true, false, false, false, false, false}, {true, true, false, false, false, false},
            {true, false, true, false, false, false}, {true, true, false, true, false, false},
            {true, false, true, false, true, false}, {true, false, false, false, false, true}};
        int was = 0;
        for (int kind = 0; kind < 6; kind++) {
            is("6 turns", x.turns(0, kind), was);
            is("6 kind", x.told(0, 0), kind);
            is("6 doubt stays", x.told(0, 3), 8);
            was = kind;
            for (int asked = 0; asked < 6; asked++) {
                is("5 kind " + kind + " as " + asked, x.as(0, asked), under[kind][asked] ? 8 : KIND);
            }
        }
        is("5 juror", x.as(1, 0), BAD);
        is("5 juror", x.as(-1, 0), BAD);
        is("5 kind", x.as(0, 6), BAD);
        is("5 kind", x.as(0, -1), BAD);
        is("6 juror", x.turns(1, 0), BAD);
        is("6 juror", x.turns(-1, 0), BAD);
        is("6 kind", x.turns(0, 6), BAD);
        is("6 kind", x.turns(0, -1), BAD);
        is("6 stays", x.told(0, 0), 5);
        is("6 the same", x.turns(0, 5), 5);
    }

    private static void promise7To9() {
        PalmJury x = new PalmJury();
        x.juror(1, 1, 7);
        int[] most = {0, 1, 255, 40};
        int[] was = {0, 1, 0, 7};
        for (int what = 1; what <= 3; what++) {
            is("7 below", x.set(0, what, -1), BAD);
            is("7 above", x.set(0, what, most[what] + 1), BAD);
            is("7 most", x.set(0, what, most[what]), was[what]);
            is("7 least", x.set(0, what, 0), most[what]);
            is("7 told", x.told(0, what), 0);
        }
        is("7 what", x.set(0, 0, 0), BAD);
        is("7 what", x.set(0, 4, 0), BAD);
        is("7 juror", x.set(1, 1, 0), BAD);
        is("7 juror", x.set(-1, 1, 0), BAD);
        is("8 fact", x.weigh(-1, 0), BAD);
        is("8 fact", x.weigh(8, 0), BAD);
        is("8 below", x.weigh(0, -51), BAD);
        is("8 above", x.weigh(0, 51), BAD);
        is("8 most", x.weigh(7, 50), 0);
        is("8 least", x.weigh(7, -50), 50);
        is("8 was", x.weigh(7, 3), -50);
        int[] rules = {50, 10, 0};
        int[] top = {100, 100, 9};
        for (int what = 0; what < 3; what++) {
            is("9 below", x.rule(what, -1), BAD);
            is("9 above", x.rule(what, top[what] + 1), BAD);
            is("9 most", x.rule(what, top[what]), rules[what]);
            is("9 count", x.count(2 + what), top[what]);
            is("9 least", x.rule(what, 0), top[what]);
        }
        is("9 what", x.rule(-1, 0), BAD);
        is("9 what", x.rule(3, 0), BAD);
    }

    private static void promise10And11() {
        PalmJury x = new PalmJury();
        is("10 none", x.deal(0), BAD);
        is("10 many", x.deal(11), BAD);
        is("11 seed", x.seed(LOW), 1);
        is("11 seed", x.seed(77), LOW);
        is("11 z", x.count(9), 77);
        is("10 deal", x.deal(3), 3);
        int z = 77;
        for (int i = 0; i < 3; i++) {
            int[] by = {6, 2, 256, 30};
            for (int what = 0; what < 4; what++) {
                z = z * 1103515245 + 12345;
                is("10 told " + what, x.told(i, what), (z >>> 8) % by[what]);
            }
            is("10 passed", x.told(i, 4), 0);
        }
        is("10 z", x.count(9), z);
        is("10 room", x.deal(10), 7);
        for (int i = 0; i < 28; i++) {
            z = z * 1103515245 + 12345;
        }
        is("10 no draws for others", x.count(9), z);
        is("10 no room", x.deal(1), 0);
        is("10 no room, no draw", x.count(9), z);
        is("10 bad", x.deal(LOW), BAD);
    }

    private static void promise12() {
        PalmJury x = Acts.jury(new int[] {0, 1, 2, 5}, new int[] {0, 0, 0, 8});
        is("12 shown", x.out(3, 0), 2);
        is("12 said", x.out(3, 1), 1);
        is("12 again", x.out(3, 1), 0);
        is("12 seen", x.told(0, 2), 8);
        is("12 heard", x.told(1, 2), 8);
        is("12 fact", x.out(-1, 0), BAD);
        is("12 fact", x.out(8, 0), BAD);
        is("12 way", x.out(0, -1), BAD);
        is("12 way", x.out(0, 2), BAD);
        is("12 last", x.out(7, 0), 2);
        is("12 last", x.told(2, 2), 136);
    }

    private static void promise13() {
        PalmJury x = Acts.jury(new int[] {0, 1, 5}, new int[] {0b11, 0b1100, 0b10000});
        // Hour 0: 0 rests, 1 with 2; hour 1: 0 with 1, 2 rests; hour 2: 0 with 2, 1 rests.
        is("13 hour 0", x.hours(1), 1);
        is("13 told", x.told(2, 2), 0b11000);
        is("13 hour 1", x.hours(1), 2);
        is("13 told", x.told(0, 2), 0b1011);
        is("13 told", x.told(1, 2), 0b1101);
        is("13 hour 2", x.hours(1), 1);
        is("13 told", x.told(2, 2), 0b11001);
        is("13 passed", x.told(0, 4), 2);
        is("13 passed", x.told(1, 4), 2);
        is("13 passed", x.told(2, 4), 0);
        PalmJury mute = Acts.jury(new int[] {5, 0}, new int[] {1, 2});
        mute.hours(2);
        is("13 the mute one heard", mute.told(0, 2), 3);
        is("13 the mute one passed none", mute.told(0, 4), 0);
        is("13 the other one passed", mute.told(1, 4), 1);
        is("13 few", x.hours(0), BAD);
        is("13 many", x.hours(101), BAD);
        is("13 low", x.hours(LOW), BAD);
        is("13 hour", x.count(1), 3);
        for (int i = 0; i < 99; i++) {
            x.hours(100);
        }
        is("13 hour", x.count(1), 9903);
        x.hours(100);
        is("13 last hour", x.count(1), 9999);
        int z = x.count(9);
        x.set(0, 2, 0);
        is("13 no more", x.hours(100), 0);
        is("13 no more", x.count(1), 9999);
        is("13 no draws", x.count(9), z);
        PalmJury empty = new PalmJury();
        is("13 nobody", empty.hours(100), 0);
        is("13 nobody", empty.count(1), 100);
        is("13 nobody draws", empty.count(9), 1);
    }

    private static void promise13Slips() {
        for (int slip = 0; slip <= 100; slip += 20) {
            PalmJury x = Acts.jury(new int[] {0, 0, 0, 0, 0}, new int[] {255, 0, 0, 0, 0});
            x.rule(1, slip);
            int z = 1;
            int slips = 0;
            for (int hour = 0; hour < 10; hour++) {
                for (int pair = 0; pair < 2; pair++) {
                    z = z * 1103515245 + 12345;
                    slips += (z >>> 8) % 100 < slip ? 1 : 0;
                }
            }
            x.hours(10);
            is("13 slips by " + slip, x.jury(2), slips);
            is("13 z by " + slip, x.count(9), z);
        }
    }

    private static void promise14() {
        PalmJury x = Acts.jury(new int[] {0, 0, 4}, new int[] {0b111, 0b1110, 0b10110});
        x.weigh(0, 20);
        x.weigh(3, -1);
        x.weigh(4, 5);
        is("14 common", x.jury(0), 0b110);
        is("14 votes", x.jury(1), 1);
        is("14 slips", x.jury(2), 0);
        is("14 known", x.jury(3), 9);
        is("14 any", x.jury(4), 0b11111);
        is("14 what", x.jury(-1), BAD);
        is("14 what", x.jury(5), BAD);
        PalmJury ten = Acts.jury(new int[10], new int[] {129, 131, 129, 145, 129, 129, 129, 129, 193, 128});
        int[] ofTen = {128, 10, 0, 22, 0b11010011};
        for (int what = 0; what < 5; what++) {
            is("14 ten jurors", ten.jury(what), ofTen[what]);
        }
        PalmJury empty = new PalmJury();
        is("14 nobody", empty.jury(0), 255);
        is("14 nobody", empty.jury(1), 0);
        is("14 nobody", empty.jury(3), 0);
        is("14 nobody", empty.jury(4), 0);
    }

    private static void promise15() {
        PalmJury x = new PalmJury();
        x.seed(9);
        x.deal(5);
        x.weigh(1, 17);
        x.weigh(6, -23);
        x.hours(3);
        int[] before = all(x, 5);
        int[] thought = new int[8];
        for (int what = 0; what < 8; what++) {
            thought[what] = x.behind(13, what);
        }
        same("15 nothing changes", before, all(x, 5));
        is("15 now", x.behind(0, 0), x.jury(0));
        is("15 now", x.behind(0, 7), x.told(4, 2));
        is("15 n", x.behind(-1, 0), BAD);
        is("15 n", x.behind(101, 0), BAD);
        is("15 what", x.behind(0, -1), BAD);
        is("15 what", x.behind(0, 8), BAD);
        is("15 what", x.behind(0, HIGH), BAD);
        is("15 nobody", new PalmJury().behind(0, 3), BAD);
        is("15 nobody", new PalmJury().behind(100, 0), 255);
        is("15 what", x.behind(0, LOW), BAD);
        x.hours(13);
        for (int what = 0; what < 8; what++) {
            is("15 what " + what, thought[what], what < 3 ? x.jury(what) : x.told(what - 3, 2));
        }
        PalmJury late = Acts.jury(new int[] {0, 0}, new int[] {1, 0});
        late.rule(2, 1);
        late.set(0, 2, 0);
        for (int i = 0; i < 100; i++) {
            late.hours(100);
        }
        late.set(0, 2, 1);
        late.rule(2, 1);
        // THE HOUR 9999 and TURN 1 are even: both rest now, and meet an hour later.
        is("15 beyond the last hour", late.behind(1, 4), 0);
        is("15 beyond the last hour", late.behind(2, 4), 1);
        is("16 beyond the last hour", late.allKnow(), 2);
    }

    private static int[] all(PalmJury x, int jurors) {
        int[] row = new int[10 + 9 * jurors];
        for (int i = 0; i < 10; i++) {
            row[i] = x.count(i);
        }
        for (int i = 0; i < 9 * jurors; i++) {
            row[10 + i] = x.told(i / 9, i % 9);
        }
        return row;
    }

    private static void same(String what, int[] a, int[] b) {
        is(what, java.util.Arrays.equals(a, b) ? 1 : 0, 1);
    }

    private static void promise16() {
        PalmJury x = Acts.jury(new int[] {0, 0}, new int[] {3, 3});
        is("16 already", x.allKnow(), 0);
        x.set(0, 2, 7);
        // Hour 0: both rest; hour 1: they meet.
        is("16 they meet", x.allKnow(), 2);
        x.set(0, 2, 255);
        is("16 six facts more", x.allKnow(), 12);
        x.turns(0, 5);
        is("16 never", x.allKnow(), NONE);
        x.turns(0, 2);
        is("16 none that sways", x.allKnow(), NONE);
        x.turns(0, 0);
        x.rule(1, 100);
        is("16 all slip", x.allKnow(), NONE);
        is("16 hour", x.count(1), 0);
        is("16 slips", x.jury(2), 0);
        is("16 nobody", new PalmJury().allKnow(), 0);
        PalmJury last = Acts.jury(new int[] {0, 0}, new int[] {1, 0});
        last.rule(1, 99);
        last.seed(Acts.seedThatSlips(99));
        is("16 at the last", last.allKnow(), 200);
        last.rule(2, 1);
        is("16 with draws an hour sooner", last.allKnow(), 199);
        last.seed(Acts.seedThatSlips(100));
        is("16 too late", last.allKnow(), NONE);
    }

    private static void promise17() {
        // With three jurors in hour 0: TURN 0 pairs 1 and 2, TURN 1 0 and 1, TURN 2 0 and 2.
        PalmJury x = Acts.jury(new int[] {0, 0, 5}, new int[] {0, 1, 1});
        is("17 least of several", x.bestTurn(1, 0), 1);
        is("17 known", x.bestTurn(1, 1), 3);
        x.set(0, 2, 1);
        is("17 all alike", x.bestTurn(60, 0), 0);
        is("17 all alike", x.bestTurn(60, 1), 3);
        x.rule(2, 4);
        x.set(2, 2, 0);
        is("17 with another turn now", x.bestTurn(1, 0), 0);
        is("17 turn stays", x.count(4), 4);
        PalmJury ten = Acts.jury(new int[] {0, 0, 0, 0, 0, 0, 0, 0, 0, 5}, new int[] {1, 0, 0, 0, 0, 0, 0, 0, 0, 0});
        for (int i = 1; i < 9; i++) {
            ten.set(i, 2, 1);
            ten.turns(i, 5);
        }
        // In hour 0 only TURN 9 pairs 0 with 9, the one that does not know.
        is("17 the last turn", ten.bestTurn(1, 0), 9);
        is("17 the last turn", ten.bestTurn(1, 1), 10);
        is("17 n", x.bestTurn(0, 0), BAD);
        is("17 n", x.bestTurn(61, 0), BAD);
        is("17 what", x.bestTurn(1, -1), BAD);
        is("17 what", x.bestTurn(1, 2), BAD);
        is("17 nobody", new PalmJury().bestTurn(1, 1), 0);
    }

    private static void promise18() {
        PalmJury x = Acts.jury(new int[] {0, 0, 0}, new int[] {0b11, 0b10, 0b10});
        is("18 behind 60", x.behind(60, 0), 0b11);
        is("18 only one knows it", x.sure(60), 0b10);
        x.set(1, 2, 0b11);
        is("18 two know it", x.sure(60), 0b11);
        is("18 too soon", x.sure(1) & x.behind(1, 0), x.sure(1));
        is("18 n", x.sure(0), BAD);
        is("18 n", x.sure(61), BAD);
        x.set(2, 2, 0);
        x.rule(1, 100);
        is("18 slips", x.sure(60), 0);
        is("18 no slips yet", x.jury(2), 0);
        is("18 nobody", new PalmJury().sure(60), 255);
        PalmJury one = Acts.jury(new int[] {0}, new int[] {9});
        is("18 one", one.sure(1), 9);
    }

    private static void promise19() {
        PalmJury x = Acts.jury(new int[] {0, 0, 0}, new int[] {0, 0, 0});
        x.rule(0, 60);
        is("19 none helps", x.advocate(0, 0), 0);
        is("19 none helps", x.advocate(0, 1), 0);
        x.weigh(2, 10);
        x.weigh(5, 10);
        is("19 shown to two", x.advocate(0, 0), 4);
        is("19 shown to two", x.advocate(0, 1), 2);
        x.set(1, 1, 1);
        x.set(2, 1, 1);
        is("19 said to two", x.advocate(0, 0), 5);
        is("19 said to two", x.advocate(0, 1), 2);
        is("19 in time to all", x.advocate(60, 0), 4);
        is("19 in time to all", x.advocate(60, 1), 3);
        is("19 nothing came out", x.jury(3), 0);
        x.weigh(2, 0);
        x.weigh(5, 0);
        x.weigh(7, 10);
        is("19 the last", x.advocate(0, 0), 15);
        PalmJury wise = Acts.jury(new int[] {0, 0}, new int[] {255, 255});
        text(wise, "trust k*5");
        wise.rule(0, 41);
        is("19 there is no ninth fact", wise.advocate(0, 1), 0);
        is("19 n", x.advocate(-1, 0), BAD);
        is("19 n", x.advocate(61, 0), BAD);
        is("19 what", x.advocate(0, -1), BAD);
        is("19 what", x.advocate(0, 2), BAD);
        is("19 nobody", new PalmJury().advocate(60, 1), 0);
    }

    private static void promise20() {
        PalmJury x = Acts.jury(new int[] {0, 0, 0}, new int[] {0, 1, 0});
        x.weigh(0, 10);
        x.rule(0, 60);
        is("20 votes", x.behind(60, 1), 3);
        is("20 the one that knows", x.tipped(60), 0b010);
        // Behind one hour 1 and 2 have met.
        is("20 at first", x.tipped(1), 0b010);
        x.set(2, 2, 1);
        x.set(0, 2, 1);
        is("20 all know", x.tipped(60), 0);
        x.set(0, 2, 0);
        // 2 is never needed behind two hours, when 0 has met 1.
        is("20 behind two", x.tipped(2), 0b010);
        x.set(1, 2, 0);
        x.set(2, 2, 0);
        x.set(0, 2, 1);
        is("20 the first", x.tipped(2), 0b001);
        is("20 n", x.tipped(0), BAD);
        is("20 n", x.tipped(61), BAD);
        is("20 nobody", new PalmJury().tipped(1), 0);
        is("20 nothing told", x.told(1, 4), 0);
    }

    private static void promise21() {
        PalmJury x = Acts.jury(new int[] {0, 0}, new int[] {0b001, 0b110});
        x.weigh(0, 40);
        x.weigh(2, -5);
        x.sheet(0, 0, 2);
        x.mark(0, 0, 97);
        x.mark(0, 1, 65);
        // As it is: 90, 45; fact 0: 100, 45; fact 1 and fact 2: 90, 65.
        is("21 fact", x.weighed(0, 0), 1);
        is("21 differences", x.weighed(0, 1), 7);
        x.weigh(1, 45);
        // As it is: 90, 90; fact 1: 95; fact 2: 100, held within.
        x.mark(0, 1, 99);
        is("21 fact", x.weighed(0, 0), 2);
        is("21 differences", x.weighed(0, 1), 8);
        x.mark(0, 1, 95);
        is("21 50 at most", x.weighed(0, 0), 1);
        is("21 50 at most", x.weighed(0, 1), 7);
        x.sheet(1, 1, 4);
        x.mark(1, 0, NONE);
        x.mark(1, 1, 90);
        x.mark(1, 2, -3);
        x.mark(1, 3, -40);
        is("21 places beyond", x.weighed(1, 1), 43);
        is("21 no number", x.weighed(1, 0), 0);
        x.sheet(2, 0, 0);
        is("21 no place", x.weighed(2, 0), 0);
        is("21 no place", x.weighed(2, 1), 0);
        is("21 weights stay", x.weigh(0, 0), 40);
        is("21 missing", x.weighed(3, 0), NOTHING);
        is("21 what first", x.weighed(3, 2), BAD);
        is("21 what", x.weighed(0, -1), BAD);
        is("21 sheet", x.weighed(4, 0), BAD);
        is("21 sheet", x.weighed(-1, 0), BAD);
    }

    private static void promise22And23() {
        PalmJury x = Acts.jury(new int[] {0, 0}, new int[] {3, 0});
        x.set(1, 3, 21);
        x.rule(1, 100);
        x.hours(4);
        is("22 slips", x.fee(), 2);
        x.rule(1, 0);
        x.hours(2);
        is("23 passed", x.fine(0), 1);
        is("23 passed", x.fine(1), 0);
        is("22 text", text(x, "fee h*10-s"), 0);
        is("22 given", x.fee(), 58);
        is("23 text", text(x, "fine p * 100 - b"), 1);
        is("23 given", x.fine(0), 100);
        is("23 given", x.fine(1), -21);
        is("22 other", text(x, "fee 9999*9999*9999"), 2);
        is("22 wraps", x.fee(), 9999 * 9999 * 9999);
        PalmJury first = Acts.jury(new int[] {0}, new int[] {0});
        is("23 the first text", text(first, "fine b+3"), 0);
        is("23 the first text", first.fine(0), 3);
        is("23 juror", x.fine(2), BAD);
        is("23 juror", x.fine(-1), BAD);
    }

    private static void promise24And25() {
        PalmJury x = new PalmJury();
        for (int i = 1; i <= 8; i++) {
            is("24 feed", x.feed(0, -1, i), 12 * i);
        }
        is("24 full", x.feed(0, 0, 0), FULL);
        is("24 stays", x.count(8), 96);
        is("25 all", x.trim(96), 96);
        is("25 above", x.trim(97), BAD);
        is("25 below", x.trim(-1), BAD);
        is("25 85", x.trim(85), 85);
        is("24 full by one", x.feed(0, 0, 0), FULL);
        is("25 84", x.trim(84), 84);
        is("24 room", x.feed(0, 0, 0), 96);
        is("25 none", x.trim(0), 0);
        is("25 gone", x.trim(1), BAD);
        x.feed(0x66656520, 0x31323334, 0x202B2036);
        is("24 the highest byte first", x.text(), 0);
        is("24 the highest byte first", x.fee(), 1240);
    }

    private static void promise26Faults() {
        String[] wrong = {"", "   ", "fee", "fee ", "fees 1", "fe 1", "tru st 1", "FEE 1", " 5", "fee5", "fee 12345", "fee 1 2",
            "fee 5h", "fee k", "trust p", "fine h", "fee hs", "fee h s", "fee 1+", "fee +1", "fee -1", "fee 1<2<3", "fee 1=2=3",
            "fee (1<2)>3=1", "fee (1", "fee 1)", "fee ()", "fee (1 2)", "fee 1 | ", "fee |1", "fee 1&&1", "fee 1!", "fee !",
            "fee 1\t", "fee 1" + (char) 255, "fee fee", "fee (((((((((1)))))))))", "fee !!!!!!!!!1", "fee !(!(!(!(!(!(!(!(!(1)))))))))",
            "fee ((((((((1))))))))+(((((((((1", "fee ((((((((!!!!!!!!!1", "fee 1*/2", "fee 00001", "fee;1", "fee 1,", "trust1", "fee h1",
            "fee 1h", "!fee 1", "fee 1 fee 2", "feea 1", "feez 1", "gee 1", "fun 1", "fee 1" + (char) 0, "fee 1" + (char) 0 + "+", "fee`",
            "fee{", "fee:1", "fee /1", "fee (1|0", "fee ((1)", "fee 1+(", "fee !(", "fee 1 <", "fee h(", "fee h!1", "trust kk", "trust K"};
        int[] place = {0, 3, 3, 4, 0, 0, 0, 0, 1, 3, 4, 6,
            5, 4, 6, 5, 4, 6, 6, 4, 4, 7, 7,
            11, 6, 5, 5, 7, 8, 4, 6, 5, 5,
            5, 5, 4, 12, 12, 20,
            30, 20, 6, 4, 3, 5, 5, 5,
            5, 0, 6, 0, 0, 0, 0, 5, 5, 3,
            3, 3, 4, 8, 8, 7, 6, 7, 5, 5, 6, 6};
        for (int i = 0; i < wrong.length; i++) {
            PalmJury x = new PalmJury();
            is("26 " + wrong[i], text(x, wrong[i]), -100 - place[i]);
            is("26 none came", x.count(6), 0);
        }
        PalmJury x = new PalmJury();
        is("26 as long as it goes", text(x, "fee " + "1+".repeat(46)), -196);
    }

    private static void promise26Worth() {
        String[] right = {"fee 7", "  fee  0007  ", "fee(7)", "fee!7", "fee !0", "fee !!5", "fee 2+3*4", "fee (2+3)*4", "fee 10-3-4",
            "fee 100/7/2", "fee 2*7/4", "fee 7/0", "fee 1-8/3", "fee (1-8)/3", "fee 1<2", "fee 2<1", "fee 2=2", "fee 2=3", "fee 3>2",
            "fee 2>3", "fee 5&3", "fee 5&0", "fee 0|4", "fee 0|0", "fee 1|0&0", "fee 0&0|7", "fee 1+1<3", "fee 1<3&2", "fee !2+3",
            "fee !(2-2)*6", "fee 5", "fee (1<2)+(3>2)", "fee ((((((((9))))))))", "fee !!!!!!!!1", "fee !(!(!(!(!(!(!(!(1))))))))",
            "fee ((((((((!!!!!!!!5))))))))", "fee (((1)))+((((((((8))))))))", "fee 9999*9999*9999/(0-1)",
            "fee 1/0|1", "fee 2<2", "fee 2>2", "fee (1|0)*3", "fee(0&1|1)", "fee ! ( 1 < 2 ) | 3 = 3", "fee (0-5)*3/2", "fee (0-3)<2",
            "fee 0-3&1", "fee !(0-1)", "fee 5|0-5", "fee 0=0=0"};
        int[] gives = {7, 7, 7, 0, 1, 1, 14, 20, 3,
            7, 3, 0, -1, -2, 1, 0, 1, 0, 1,
            0, 1, 0, 1, 0, 1, 1, 1, 1, 3,
            6, 5, 2, 9, 1, 1,
            1, 9, -(9999 * 9999 * 9999),
            1, 0, 0, 3, 1, 1, -7, 1,
            1, 0, 1, 0};
        for (int i = 0; i < right.length - 1; i++) {
            PalmJury x = new PalmJury();
            is("26 " + right[i], text(x, right[i]), 0);
            is("26 gives " + right[i], x.fee(), gives[i]);
        }
        PalmJury x = new PalmJury();
        is("26 one test only", text(x, right[right.length - 1]), -107);
        is("26 lowest by -1", text(x, "fee (0-2*1024*1024*1024)/(0-1)"), 0);
        is("26 lowest by -1", x.fee(), LOW);
        is("26 longest", text(x, "fee " + "1+".repeat(45) + "10"), 1);
        is("26 longest", x.fee(), 55);
        trustText();
    }

    private static void trustText() {
        PalmJury x = Acts.jury(new int[] {0, 1, 2, 3, 4, 5}, new int[] {7, 7, 7, 7, 7, 7});
        x.weigh(0, 5);
        x.weigh(2, -7);
        for (int i = 0; i < 6; i++) {
            x.set(i, 3, 6);
        }
        is("26 trust", text(x, "trust k*10+w+d*4"), 0);
        int[] believes = {52, 46, 62, 48, 38, 52};
        for (int i = 0; i < 6; i++) {
            is("26 trust of kind " + i, x.told(i, 5), believes[i]);
        }
        is("26 votes", x.jury(1), 3);
        is("26 held", text(x, "trust 9999"), 1);
        is("26 held", x.told(0, 5), 100);
        is("26 held", x.told(1, 5), 94);
        is("26 held", text(x, "trust 0-1"), 2);
        is("26 held", x.told(0, 5), 0);
        is("26 held", x.told(3, 5), 25);
        is("26 held", x.told(4, 5), 100);
    }

    private static void promise26Full() {
        PalmJury x = new PalmJury();
        for (int i = 0; i < 14; i++) {
            is("26 number", text(x, i % 2 == 0 ? "fee 1" : "fine 2"), i);
        }
        is("26 full", text(x, "fee 3"), FULL);
        is("26 fault first", text(x, "fee 3 3"), -106);
        is("26 stays", x.fee(), 1);
        is("26 count", x.count(6), 14);
        is("28 why", x.why(1), 12);
        is("28 why", x.why(2), 13);
    }

    private static void promise27And28() {
        PalmJury x = new PalmJury();
        text(x, "fine p");
        text(x, "trust (k + 10) * w - !d & 5 | 0");
        text(x, "fee h+s");
        text(x, "fine 1");
        int[][] told = {{2, 1}, {0, 6}, {1, 2}, {2, 1}};
        for (int i = 0; i < 4; i++) {
            is("27 key", x.textTold(i, 0), told[i][0]);
            is("27 leaves", x.textTold(i, 1), told[i][1]);
        }
        is("27 text", x.textTold(4, 0), BAD);
        is("27 text", x.textTold(-1, 0), BAD);
        is("27 what", x.textTold(0, 2), BAD);
        is("27 what", x.textTold(0, -1), BAD);
        is("28 last", x.why(2), 3);
        is("28 trust", x.why(0), 1);
        is("28 fee", x.why(1), 2);
        is("28 key", x.why(3), BAD);
        is("28 key", x.why(-1), BAD);
        is("28 none", new PalmJury().why(0), NONE);
    }

    private static void promise29() {
        PalmJury x = new PalmJury();
        is("29 none", x.sheet(0, 0, 0), 0);
        is("29 most", x.sheet(3, 1, 24), 24);
        is("29 above", x.sheet(0, 0, 25), BAD);
        is("29 below", x.sheet(0, 0, -1), SIZE);
        is("29 below", x.sheet(0, 1, LOW), SIZE);
        is("29 sheet", x.sheet(4, 0, 1), BAD);
        is("29 sheet first", x.sheet(-1, 0, -1), BAD);
        is("29 sort", x.sheet(0, 2, 1), BAD);
        is("29 sort first", x.sheet(0, -2, -1), BAD);
        x.mark(3, 23, 5);
        x.mark(3, 0, NONE);
        is("29 anew", x.sheet(3, 1, 24), 24);
        x.lay(0, 2, 3);
        is("29 all 0", x.item(0, 23), 0);
        is("29 all 0", x.item(0, 0), 0);
        is("29 no more", x.item(0, 24), INDEX);
        is("29 missing", x.sheet(3, -1, 99), 0);
        is("29 missing", x.reads(3), NOTHING);
        is("29 missing, n any", x.sheet(0, -1, -5), 0);
        is("29 missing", x.reads(0), NOTHING);
        is("29 refused ones change nothing", x.item(0, 0), 0);
    }

    private static void promise30() {
        PalmJury x = new PalmJury();
        x.sheet(0, 0, 3);
        x.sheet(1, 1, 3);
        is("30 short", x.mark(0, 2, 32767), 1);
        is("30 short", Acts.place(x, 0, 2), 32767);
        is("30 short wraps", x.mark(0, 0, 32768), 1);
        is("30 short wraps", Acts.place(x, 0, 0), -32768);
        is("30 short wraps", x.mark(0, 0, LOW + 7), 1);
        is("30 short wraps", Acts.place(x, 0, 0), 7);
        is("30 kind", x.mark(0, 0, NONE), KIND);
        is("30 index first", x.mark(0, 3, NONE), INDEX);
        is("30 index", x.mark(0, -1, 0), INDEX);
        is("30 float", x.mark(1, 0, 99999), 1);
        is("30 float", Acts.place(x, 1, 0), 99999);
        is("30 float", x.mark(1, 0, -99999), 1);
        is("30 float", Acts.place(x, 1, 0), -99999);
        is("30 above", x.mark(1, 0, 100000), BAD);
        is("30 below", x.mark(1, 0, -100000), BAD);
        is("30 index first", x.mark(1, 3, 100000), INDEX);
        is("30 no number", x.mark(1, 0, NONE), 1);
        is("30 no number", Acts.place(x, 1, 0), KIND);
        is("30 a number again", x.mark(1, 0, 3), 1);
        is("30 a number again", Acts.place(x, 1, 0), 3);
        is("30 missing", x.mark(2, 99, 100000), NOTHING);
        is("30 sheet", x.mark(4, 0, 0), BAD);
        is("30 sheet", x.mark(-1, 0, 0), BAD);
        x.sheet(2, 0, 0);
        is("30 no places", x.mark(2, 0, 0), INDEX);
    }

    private static void promise31() {
        PalmJury x = new PalmJury();
        for (int fact = 0; fact < 8; fact++) {
            x.weigh(fact, fact);
        }
        x.sheet(0, 1, 6);
        int[] places = {0, NONE, 99, -99, 4, 50};
        int[] weights = {0, 1, 50, -50, 4, 50, 6, 7};
        for (int i = 0; i < 6; i++) {
            x.mark(0, i, places[i]);
        }
        is("31 pour", x.pour(0), 3);
        is("31 again", x.pour(0), 0);
        for (int fact = 0; fact < 8; fact++) {
            is("31 weight " + fact, x.weigh(fact, 0), weights[fact]);
        }
        x.sheet(1, 0, 24);
        for (int i = 0; i < 24; i++) {
            x.mark(1, i, 9);
        }
        is("31 no more than facts", x.pour(1), 8);
        x.sheet(1, 0, 0);
        is("31 no places", x.pour(1), 0);
        is("31 missing", x.pour(2), NOTHING);
        is("31 sheet", x.pour(4), BAD);
        is("31 sheet", x.pour(-1), BAD);
    }

    private static void promise32() {
        PalmJury x = Acts.jury(new int[] {0, 0, 0}, new int[] {1, 0, 1});
        x.weigh(0, 10);
        x.rule(0, 60);
        x.sheet(0, 1, 4);
        is("32 first", x.reads(0), 0);
        x.mark(0, 0, 1);
        is("32 third", x.reads(0), 2);
        x.mark(0, 2, NONE);
        is("32 no juror", x.reads(0), 3);
        x.mark(0, 3, NONE);
        is("32 none", x.reads(0), NONE);
        x.mark(0, 1, 1);
        is("32 not guilty", x.reads(0), 1);
        x.mark(0, 0, 2);
        is("32 neither", x.reads(0), 0);
        x.sheet(1, 0, 2);
        x.mark(1, 0, 1);
        is("32 shorter", x.reads(1), NONE);
        is("32 missing", x.reads(2), NOTHING);
        is("32 sheet", x.reads(4), BAD);
        is("32 sheet", x.reads(-1), BAD);
    }

    private static void promise33() {
        PalmJury x = new PalmJury();
        x.sheet(0, 0, 4);
        x.sheet(1, 0, 2);
        x.sheet(2, 1, 4);
        for (int i = 0; i < 4; i++) {
            x.mark(0, i, i + 1);
        }
        is("33 overlap", x.copy(0, 0, 0, 1, 3), 3);
        int[] then = {1, 1, 2, 3};
        for (int i = 0; i < 4; i++) {
            is("33 overlap", Acts.place(x, 0, i), then[i]);
        }
        is("33 overlap back", x.copy(0, 1, 0, 0, 3), 3);
        is("33 overlap back", Acts.place(x, 0, 1), 2);
        is("33 other", x.copy(0, 2, 1, 0, 2), 2);
        is("33 other", Acts.place(x, 1, 0), 3);
        is("33 nothing", x.copy(0, 4, 1, 2, 0), 0);
        is("33 beyond", x.copy(0, 5, 1, 2, 0), INDEX);
        is("33 beyond", x.copy(0, 0, 1, 3, 0), INDEX);
        is("33 from", x.copy(0, 3, 1, 0, 2), INDEX);
        is("33 to", x.copy(0, 0, 1, 1, 2), INDEX);
        is("33 place", x.copy(0, -1, 1, 0, 1), INDEX);
        is("33 at", x.copy(0, 0, 1, -1, 1), INDEX);
        is("33 many", x.copy(0, 0, 1, 0, -1), INDEX);
        is("33 huge", x.copy(0, 1, 1, 1, HIGH), INDEX);
        is("33 huge", x.copy(0, HIGH, 1, HIGH, 1), INDEX);
        is("33 low", x.copy(0, LOW, 1, 0, LOW), INDEX);
        is("33 kind first", x.copy(0, 9, 2, 0, 1), KIND);
        is("33 kind", x.copy(2, 0, 0, 0, 0), KIND);
        is("33 missing", x.copy(3, 0, 0, 0, 1), NOTHING);
        is("33 missing", x.copy(0, 0, 3, 0, 1), NOTHING);
        is("33 sheet first", x.copy(3, 0, 4, 0, 1), BAD);
        is("33 sheet", x.copy(-1, 0, 0, 0, 1), BAD);
        x.sheet(3, 1, 1);
        x.mark(3, 0, NONE);
        is("33 no number", x.copy(3, 0, 2, 3, 1), 1);
        is("33 no number", Acts.place(x, 2, 3), KIND);
    }

    private static void promise34() {
        PalmJury x = Acts.jury(new int[] {1}, new int[] {0});
        x.sheet(0, 0, 1);
        is("34 juror", x.lay(0, 1, 0), 0);
        is("34 sheet", x.lay(0, 2, 0), 1);
        is("34 number", x.lay(0, 3, LOW), 2);
        is("34 nothing", x.lay(0, 0, LOW), 3);
        is("34 again", x.lay(0, 0, 7), 0);
        is("34 number", x.lay(4, 3, 5), 0);
        is("34 slot", x.lay(5, 0, 0), BAD);
        is("34 slot", x.lay(-1, 0, 0), BAD);
        is("34 thing", x.lay(4, 4, 0), BAD);
        is("34 thing", x.lay(4, -1, 0), BAD);
        is("34 no juror", x.lay(4, 1, 1), BAD);
        is("34 no juror", x.lay(4, 1, -1), BAD);
        is("34 no sheet", x.lay(4, 2, 4), BAD);
        is("34 no sheet", x.lay(4, 2, -1), BAD);
        is("34 missing", x.lay(4, 2, 1), NOTHING);
        is("34 stays", x.rest(4, 3), 2);
    }

    private static void promise35() {
        PalmJury x = new PalmJury();
        int[] worths = {8, 13, 91, 26, 84, 2};
        for (int kind = 0; kind < 6; kind++) {
            x.juror(kind, 0, 8);
            x.lay(0, 1, kind);
            x.turns(kind, (kind + 1) % 6);
            x.set(kind, 3, 0);
            is("35 as it was, as a juror", x.ask(0, 0), worths[kind]);
            is("35 as it was, as its kind", x.ask(0, kind), worths[kind]);
            is("35 doubting", x.ask(0, 1), kind == 1 || kind == 3 ? worths[kind] : KIND);
            is("35 swayed", x.ask(0, 2), kind == 2 || kind == 4 ? worths[kind] : KIND);
            is("35 foreman", x.ask(0, 3), kind == 3 ? 26 : KIND);
            is("35 kind", x.ask(0, 6), BAD);
            is("35 kind", x.ask(0, -1), BAD);
        }
        is("35 nothing", x.ask(1, 0), NOTHING);
        is("35 bad first", x.ask(1, 6), BAD);
        x.lay(1, 3, 0);
        is("35 no juror", x.ask(1, 0), KIND);
        is("35 slot", x.ask(5, 0), BAD);
        is("35 slot", x.ask(-1, 0), BAD);
    }

    private static void promise36() {
        PalmJury x = new PalmJury();
        x.sheet(0, 1, 2);
        x.mark(0, 0, -7);
        x.mark(0, 1, NONE);
        x.lay(0, 2, 0);
        x.mark(0, 0, 8);
        x.sheet(0, -1, 0);
        is("36 as it was", x.item(0, 0), -7);
        is("36 no number", x.item(0, 1), KIND);
        is("36 index", x.item(0, 2), INDEX);
        is("36 index", x.item(0, -1), INDEX);
        is("36 nothing", x.item(1, -1), NOTHING);
        x.lay(1, 3, 0);
        is("36 no sheet", x.item(1, -1), KIND);
        is("36 slot", x.item(5, 0), BAD);
        is("36 slot", x.item(-1, 0), BAD);
        x.sheet(0, 0, 3);
        x.mark(0, 2, 5);
        x.lay(2, 2, 0);
        is("36 rows of their own", x.item(0, 0), -7);
        is("36 rows of their own", x.item(2, 2), 5);
    }

    private static void promise37() {
        PalmJury x = new PalmJury();
        x.lay(0, 3, -17);
        is("37 rest", x.rest(0, 5), -2);
        is("37 rest", x.rest(0, -5), -2);
        is("37 by 0", x.rest(0, 0), NO);
        x.lay(1, 3, LOW);
        is("37 lowest", x.rest(1, -1), 0);
        is("37 lowest", x.rest(1, HIGH), -1);
        is("37 slot", x.rest(5, 0), BAD);
        is("37 slot", x.rest(-1, 0), BAD);
        is("37 nothing first", x.rest(2, 0), NOTHING);
        x.sheet(0, 0, 1);
        x.lay(2, 2, 0);
        is("37 kind first", x.rest(2, 0), KIND);
    }

    private static void promise38() {
        PalmJury x = new PalmJury();
        for (int i = 1; i <= 60; i++) {
            is("38 tell", x.tell(i), i);
        }
        is("38 full", x.tell(0), FULL);
        is("38 count", x.count(7), 60);
    }

    private static void promise39() {
        PalmJury x = new PalmJury();
        x.tell(1);
        is("39 bad first", x.check(0), BAD);
        is("39 none wait", x.count(7), 0);
        x.tell(1);
        is("39 no image", x.check(1), NO);
        is("39 none wait", x.count(7), 0);
        int[] row = new int[60];
        x = keptAndGoneOn(row);
        for (int n = 1; n <= 30; n++) {
            PalmJury y = keptAndGoneOn(new int[60]);
            say(y, row, 2 * n, -1);
            is("39 right", y.check(n), 0);
        }
        for (int spoilt = 0; spoilt < 60; spoilt++) {
            PalmJury y = keptAndGoneOn(new int[60]);
            say(y, row, 60, spoilt);
            is("39 spoilt", y.check(30), 1 + spoilt);
        }
        say(x, row, 9, -1);
        is("39 missing", x.check(5), 10);
        say(x, row, 9, -1);
        is("39 too many", x.check(4), 9);
        say(x, row, 9, 3);
        is("39 wrong first", x.check(4), 4);
        is("39 nothing said", x.check(4), 1);
        is("39 31", x.check(31), BAD);
        is("39 z", x.told(0, 5), 0);
    }

    /** A jury that has gone on from its image, with another law and weight; row becomes what its hours were. */
    private static PalmJury keptAndGoneOn(int[] row) {
        PalmJury x = new PalmJury();
        x.seed(5);
        x.deal(6);
        x.weigh(3, 44);
        Acts.text(x, "trust 40+w/2+k");
        x.keep();
        for (int i = 0; i < 30; i++) {
            x.hours(1);
            row[2 * i] = x.jury(3);
            row[2 * i + 1] = x.jury(1);
        }
        Acts.text(x, "trust 0");
        x.weigh(3, 0);
        return x;
    }

    private static void say(PalmJury x, int[] row, int many, int spoilt) {
        for (int i = 0; i < many; i++) {
            x.tell(row[i] + (i == spoilt ? 1 : 0));
        }
    }

    private static void promise39Edges() {
        PalmJury x = Acts.jury(new int[] {0}, new int[] {1});
        for (int i = 0; i < 99; i++) {
            x.hours(100);
        }
        x.hours(97);
        x.keep();
        x.tell(1);
        x.tell(1);
        x.tell(1);
        x.tell(1);
        is("39 two hours are left", x.check(30), 0);
        is("39 two hours are left", x.check(30), 1);
        x.hours(2);
        x.keep();
        is("39 no hour is left", x.check(1), 0);
        x.tell(1);
        is("39 no hour is left", x.check(1), 1);
    }

    private static void promise40And41() {
        PalmJury x = new PalmJury();
        is("41 none", x.back(), NO);
        x.seed(3);
        x.deal(4);
        x.weigh(1, 5);
        x.rule(0, 33);
        text(x, "fee 8");
        x.hours(5);
        int[] kept = all(x, 4);
        is("40 keep", x.keep(), 4);
        for (int again = 0; again < 2; again++) {
            x.deal(2);
            x.juror(0, 0, 0);
            x.turns(0, 5 - x.told(0, 0));
            x.set(1, 3, 40);
            x.set(1, 1, 1);
            x.set(2, 2, 99);
            x.weigh(1, 50);
            x.rule(0, 1);
            x.rule(1, 2);
            x.rule(2, 3);
            is("41 a text beyond the image", text(x, again == 0 ? "fee 9" : "fine 9"), 1);
            x.hours(9);
            is("41 fee", x.fee(), again == 0 ? 9 : 8);
            is("41 back", x.back(), 4);
            same("41 all is as it was", kept, all(x, 4));
            is("41 fee", x.fee(), 8);
            is("41 why", x.why(1), 0);
            is("41 why", x.why(2), NONE);
            is("41 text", x.textTold(1, 0), BAD);
            is("41 weight", x.weigh(1, 5), 5);
        }
        x.sheet(0, 0, 2);
        x.lay(0, 3, 9);
        x.tell(4);
        x.feed(1, 2, 3);
        x.back();
        is("41 sheets stay", x.mark(0, 1, 1), 1);
        is("41 slots stay", x.rest(0, 5), 4);
        is("41 numbers that wait stay", x.count(7), 1);
        is("41 the tape stays", x.count(8), 12);
        x.deal(1);
        is("40 anew", x.keep(), 5);
        x.deal(1);
        is("41 anew", x.back(), 5);
    }

    private static void promise42() {
        PalmJury x = Acts.jury(new int[] {0, 0, 4}, new int[] {1, 0, 0});
        x.weigh(0, -1);
        x.rule(0, 49);
        x.rule(1, 7);
        x.rule(2, 8);
        x.hours(2);
        text(x, "fee 1");
        x.tell(1);
        x.tell(1);
        x.feed(0, 0, 0);
        x.seed(-5);
        int[] counts = {3, 2, 49, 7, 8, 3, 1, 2, 12, -5};
        for (int what = 0; what < 10; what++) {
            is("42 count " + what, x.count(what), counts[what]);
        }
        x.rule(0, 50);
        is("42 guilty", x.count(5), x.jury(1));
        is("42 what", x.count(-1), BAD);
        is("42 what", x.count(10), BAD);
    }
}
