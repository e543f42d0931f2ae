import java.util.List;
import java.util.function.Supplier;
import java.util.function.ToIntFunction;

/** Calls that are refused change nothing, and neither does what is only thought. */
final class RefusalEdges {
    private static final int BAD = PalmJury.BAD, NO = PalmJury.NO, FULL = PalmJury.FULL, NONE = PalmJury.NONE,
        NOTHING = PalmJury.NOTHING, KIND = PalmJury.KIND, INDEX = PalmJury.INDEX, SIZE = PalmJury.SIZE;
    private static final int LOW = Acts.LOW, HIGH = Acts.HIGH;

    private RefusalEdges() {
    }

    /** A jury with something everywhere: slot 4 and sheet 3 are empty, and what waits is right. */
    private static PalmJury rich() {
        PalmJury x = new PalmJury();
        x.seed(11);
        x.deal(3);
        x.juror(4, 1, 7);
        x.weigh(0, 9);
        x.weigh(5, -13);
        x.rule(0, 45);
        x.rule(1, 20);
        x.rule(2, 3);
        Acts.text(x, "trust 40+w+k");
        Acts.text(x, "fine p+b*2");
        x.hours(2);
        x.keep();
        for (int hour = 0; hour < 2; hour++) {
            x.hours(1);
            Acts.tell(x, x.jury(3), x.jury(1));
        }
        x.weigh(6, 21);
        Acts.text(x, "fee h+s");
        x.sheet(0, 0, 3);
        Acts.mark(x, 0, 1, -2, 3);
        x.sheet(1, 1, 2);
        Acts.mark(x, 1, 5, NONE);
        x.sheet(2, 0, 0);
        x.lay(0, 1, 1);
        x.lay(1, 2, 0);
        x.lay(2, 3, -17);
        x.lay(3, 2, 1);
        x.feed(0x66656520, 0x372A6820, 0x20202020);
        return x;
    }

    /** The same without an image, and with no room anywhere. */
    private static PalmJury full() {
        PalmJury x = new PalmJury();
        x.deal(10);
        for (int i = 0; i < 14; i++) {
            Acts.text(x, i % 2 == 0 ? "fee s+3" : "trust 44+w");
        }
        for (int i = 0; i < 60; i++) {
            x.tell(i);
        }
        for (int i = 0; i < 8; i++) {
            x.feed(0x66656520, 0x372A6820, 0x20202020);
        }
        return x;
    }

    private static void refused(Due due, Supplier<PalmJury> made, int answer, List<ToIntFunction<PalmJury>> calls) {
        same(due, made, made, answer, calls);
    }

    /** Each call answers so, and what it leaves is what the other supplier makes. */
    private static void same(Due due, Supplier<PalmJury> made, Supplier<PalmJury> left, int answer, List<ToIntFunction<PalmJury>> calls) {
        List<Integer> want = Acts.usedUp(left.get());
        for (int i = 0; i < calls.size(); i++) {
            PalmJury x = made.get();
            due.is("answer of call " + (i + 1), calls.get(i).applyAsInt(x), answer);
            due.holds("nothing is changed by call " + (i + 1), Acts.usedUp(x).equals(want));
        }
    }

    @Says(at = "Terms 0", words = "A call that is refused answers one of BAD, NO, FULL, or a FINDING, of several the one that stands first with it")
    static void firstOfSeveral(Due due) {
        PalmJury x = full();
        x.sheet(0, 0, 1);
        x.sheet(1, 1, 1);
        x.lay(1, 1, 0);
        x.lay(2, 3, 7);
        due.each("BAD ahead of FULL", BAD, x.juror(6, 0, 0), x.juror(0, 2, 0), x.juror(0, 0, 41));
        due.each("BAD ahead of KIND", BAD, x.as(10, 5), x.ask(2, 6), x.ask(5, 5));
        due.each("BAD ahead of NOTHING", BAD, x.weighed(2, 2), x.lay(5, 2, 2), x.ask(0, 6), x.copy(2, 0, 4, 0, 0), x.copy(4, 0, 2, 0, 0));
        due.each("BAD ahead of SIZE", BAD, x.sheet(4, 0, -1), x.sheet(0, 2, -1), x.sheet(0, -2, -1));
        due.each("BAD ahead of NO", BAD, x.check(0), x.check(31), x.rest(5, 0));
        due.each("NOTHING ahead of KIND", NOTHING, x.copy(0, 0, 2, 0, 1), x.copy(2, 0, 1, 0, 1));
        due.each("NOTHING ahead of INDEX", NOTHING, x.mark(2, -1, 0), x.copy(2, 9, 0, 9, 9), x.copy(0, 9, 2, 9, 9), x.item(0, -1));
        due.each("NOTHING ahead of BAD: v", NOTHING, x.mark(2, 0, 100000));
        due.each("NOTHING ahead of NO", NOTHING, x.rest(0, 0));
        due.each("KIND ahead of INDEX", KIND, x.copy(0, 9, 1, 9, 9), x.copy(1, 0, 0, 0, -1), x.item(1, -1), x.item(2, 99));
        due.each("KIND ahead of NO", KIND, x.rest(1, 0));
        due.each("INDEX ahead of KIND", INDEX, x.mark(0, 1, NONE));
        due.each("INDEX ahead of BAD: v", INDEX, x.mark(1, 1, 100000));
        due.each("a FAULT ahead of FULL", -106, Acts.text(x, "fee 3 3"));
        due.each("FULL by itself", FULL, Acts.text(x, "fee 3"), x.juror(0, 0, 0));
    }

    @Says(at = "Terms 0", words = "and changes nothing")
    static void badJurorsAndHours(Due due) {
        refused(due, RefusalEdges::rich, BAD, List.of(
            x -> x.juror(-1, 0, 0), x -> x.juror(6, 0, 0), x -> x.juror(0, -1, 0), x -> x.juror(0, 2, 0), x -> x.juror(0, 0, -1),
            x -> x.juror(0, 0, 41), x -> x.told(4, 0), x -> x.told(0, 9), x -> x.tells(1, 1), x -> x.tells(0, 4), x -> x.as(4, 0),
            x -> x.as(0, 6), x -> x.turns(4, 0), x -> x.turns(0, 6), x -> x.turns(0, -1), x -> x.set(4, 1, 0), x -> x.set(0, 1, 2),
            x -> x.set(0, 2, 256), x -> x.set(0, 3, 41), x -> x.set(0, 3, -1), x -> x.set(0, 0, 1), x -> x.set(0, 4, 1),
            x -> x.weigh(8, 0), x -> x.weigh(0, 51), x -> x.weigh(0, -51), x -> x.rule(0, 101), x -> x.rule(1, 101),
            x -> x.rule(2, 10), x -> x.rule(3, 1), x -> x.rule(0, -1), x -> x.deal(0), x -> x.deal(11), x -> x.out(8, 0),
            x -> x.out(0, 2), x -> x.hours(0), x -> x.hours(101), x -> x.hours(-1), x -> x.jury(5)));
    }

    @Says(at = "Terms 0", words = "changes nothing")
    static void badThoughtsAndTexts(Due due) {
        refused(due, RefusalEdges::rich, BAD, List.of(
            x -> x.behind(-1, 0), x -> x.behind(101, 0), x -> x.behind(1, 7), x -> x.bestTurn(0, 0), x -> x.bestTurn(61, 0),
            x -> x.bestTurn(1, 2), x -> x.sure(0), x -> x.sure(61), x -> x.advocate(-1, 0), x -> x.advocate(61, 0),
            x -> x.advocate(1, 2), x -> x.tipped(0), x -> x.tipped(61), x -> x.weighed(4, 0), x -> x.weighed(0, 2), x -> x.fine(4),
            x -> x.trim(-1), x -> x.trim(13), x -> x.textTold(3, 0), x -> x.textTold(0, 2), x -> x.why(3), x -> x.count(10)));
        refused(due, RefusalEdges::rich, NOTHING, List.of(x -> x.weighed(3, 0)));
        refused(due, RefusalEdges::rich, KIND, List.of(x -> x.as(3, 5), x -> x.as(3, 3)));
    }

    @Says(at = "Terms 0", words = "changes nothing (")
    static void badSheetsAndSlots(Due due) {
        refused(due, RefusalEdges::rich, BAD, List.of(
            x -> x.sheet(4, 0, 1), x -> x.sheet(-1, -1, 0), x -> x.sheet(0, 2, 1), x -> x.sheet(0, 0, 25), x -> x.mark(4, 0, 1),
            x -> x.mark(1, 0, 100000), x -> x.mark(1, 0, -100000), x -> x.pour(4), x -> x.reads(4), x -> x.copy(4, 0, 0, 0, 1),
            x -> x.copy(0, 0, 4, 0, 1), x -> x.lay(5, 0, 0), x -> x.lay(0, 4, 0), x -> x.lay(0, 1, 4), x -> x.lay(0, 2, 4),
            x -> x.ask(5, 0), x -> x.ask(0, 6), x -> x.item(5, 0), x -> x.rest(5, 1)));
        refused(due, RefusalEdges::rich, NOTHING, List.of(
            x -> x.mark(3, 0, 1), x -> x.pour(3), x -> x.reads(3), x -> x.copy(0, 0, 3, 0, 1), x -> x.copy(3, 0, 0, 0, 1),
            x -> x.lay(0, 2, 3), x -> x.ask(4, 0), x -> x.item(4, 0), x -> x.rest(4, 1)));
        refused(due, RefusalEdges::rich, KIND, List.of(
            x -> x.mark(0, 0, NONE), x -> x.copy(0, 0, 1, 0, 1), x -> x.ask(1, 0), x -> x.item(0, 0), x -> x.item(3, 1),
            x -> x.rest(0, 1)));
        refused(due, RefusalEdges::rich, INDEX, List.of(
            x -> x.mark(0, 3, 1), x -> x.mark(2, 0, 1), x -> x.copy(0, 0, 0, 1, 3), x -> x.copy(0, 2, 0, 0, 2), x -> x.item(1, 3)));
        refused(due, RefusalEdges::rich, SIZE, List.of(x -> x.sheet(0, 0, -1), x -> x.sheet(3, 1, LOW)));
        refused(due, RefusalEdges::rich, NO, List.of(x -> x.rest(2, 0)));
    }

    @Says(at = "Terms 0", words = "of BAD, NO, FULL,")
    static void fullOnesAndNoImage(Due due) {
        refused(due, RefusalEdges::full, FULL, List.of(x -> x.juror(0, 0, 0), x -> x.feed(1, 2, 3), x -> x.tell(5)));
        refused(due, RefusalEdges::full, NO, List.of(x -> x.back()));
        refused(due, RefusalEdges::full, 0, List.of(x -> x.deal(10)));
    }

    @Says(at = "Terms 0", words = "(but the tape and the numbers that wait, where told)")
    static void tapeAndNumbersAreUsedUp(Due due) {
        Supplier<PalmJury> noTape = () -> after(rich(), x -> x.trim(0));
        Supplier<PalmJury> noneWait = () -> after(rich(), x -> x.check(2));
        Supplier<PalmJury> wrong = () -> after(rich(), x -> x.feed(0x21212121, 0, -1));
        same(due, wrong, noTape, -112, List.of(x -> x.text()));
        same(due, RefusalEdges::rich, noneWait, BAD, List.of(x -> x.check(0), x -> x.check(31), x -> x.check(LOW)));
        Supplier<PalmJury> fullNoTape = () -> after(full(), x -> x.trim(0));
        Supplier<PalmJury> fullOneText = () -> after(full(), x -> x.trim(12));
        same(due, fullOneText, fullNoTape, FULL, List.of(x -> x.text()));
        PalmJury x = full();
        due.is("no image", x.check(1), NO);
        due.is("none wait", x.count(7), 0);
    }

    private static PalmJury after(PalmJury x, ToIntFunction<PalmJury> call) {
        call.applyAsInt(x);
        return x;
    }

    @Says(at = "Terms 3", words = "(All that follows is only thought, from now on, z as it is, without the bound of THE HOUR: nothing changes.)")
    static void thinkingChangesNothing(Due due) {
        List<ToIntFunction<PalmJury>> thoughts = List.of(x -> x.behind(100, 0), x -> x.behind(100, 1), x -> x.behind(100, 2),
            x -> x.behind(100, 3), x -> x.behind(0, 6), x -> x.allKnow(), x -> x.bestTurn(60, 0), x -> x.bestTurn(60, 1), x -> x.sure(60),
            x -> x.advocate(60, 0), x -> x.advocate(0, 1), x -> x.tipped(60), x -> x.weighed(0, 0), x -> x.weighed(1, 1));
        List<Integer> want = Acts.usedUp(rich());
        for (int i = 0; i < thoughts.size(); i++) {
            PalmJury x = rich();
            int answer = thoughts.get(i).applyAsInt(x);
            due.is("the same answer again, thought " + (i + 1), thoughts.get(i).applyAsInt(x), answer);
            due.holds("nothing changes by thought " + (i + 1), Acts.usedUp(x).equals(want));
        }
    }
}
