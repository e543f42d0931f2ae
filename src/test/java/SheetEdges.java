/** Edges of sheets and slots: promises 29 to 37. */
final class SheetEdges {
    private static final int BAD = PalmJury.BAD, NO = PalmJury.NO, NONE = PalmJury.NONE, NOTHING = PalmJury.NOTHING,
        KIND = PalmJury.KIND, INDEX = PalmJury.INDEX, SIZE = PalmJury.SIZE;
    private static final int LOW = Acts.LOW, HIGH = Acts.HIGH;

    private SheetEdges() {
    }

    /** Sheets 0 and 1 of shorts with three and two places, 2 of floats with three, 3 missing. */
    private static PalmJury sheets() {
        PalmJury x = new PalmJury();
        x.sheet(0, 0, 3);
        Acts.mark(x, 0, 11, 12, 13);
        x.sheet(1, 0, 2);
        Acts.mark(x, 1, 21, 22);
        x.sheet(2, 1, 3);
        Acts.mark(x, 2, 31, NONE, 33);
        return x;
    }

    private static void row(Due due, String what, PalmJury x, int sheet, long... want) {
        for (int i = 0; i < want.length; i++) {
            due.is(what + ", place " + i, Acts.place(x, sheet, i), want[i]);
        }
        due.is(what + ", no more places", Acts.place(x, sheet, want.length), INDEX);
    }

    @Says(at = "Promise 29", words = "A SHEET becomes a row of n places of a sort, all 0")
    static void allZero(Due due) {
        PalmJury x = sheets();
        due.row("anew", new long[] {3, 3, 24, 0}, x.sheet(0, 0, 3), x.sheet(2, 1, 3), x.sheet(3, 0, 24), x.sheet(1, 1, 0));
        row(due, "shorts anew", x, 0, 0, 0, 0);
        row(due, "floats anew", x, 2, 0, 0, 0);
        row(due, "no places", x, 1);
        row(due, "24 places", x, 3, new long[24]);
        x.mark(2, 1, NONE);
        x.sheet(2, 0, 2);
        row(due, "of another sort", x, 2, 0, 0);
        x.sheet(2, 1, 4);
        row(due, "longer", x, 2, 0, 0, 0, 0);
    }

    @Says(at = "Promise 29", words = "(sort -1: MISSING, n any): n (0).")
    static void missingAgain(Due due) {
        PalmJury x = sheets();
        due.each("n any", 0, x.sheet(0, -1, 5), x.sheet(1, -1, -5), x.sheet(2, -1, LOW), x.sheet(3, -1, HIGH), x.sheet(3, -1, 25), x.sheet(3, -1, 0));
        due.each("missing", NOTHING, x.reads(0), x.reads(1), x.reads(2), x.reads(3));
        due.row("there again", new long[] {1, 0}, x.sheet(0, 0, 1), Acts.place(x, 0, 0));
    }

    @Says(at = "Promise 29", words = "BAD: sheet, sort, n above 24")
    static void badSheet(Due due) {
        PalmJury x = sheets();
        due.each("no such sheet", BAD, x.sheet(-1, 0, 1), x.sheet(4, 0, 1), x.sheet(LOW, 0, 1), x.sheet(HIGH, 0, 1), x.sheet(4, -1, 1), x.sheet(-1, 0, -1));
        due.each("no such sort", BAD, x.sheet(0, -2, 1), x.sheet(0, 2, 1), x.sheet(0, LOW, 1), x.sheet(0, HIGH, 1), x.sheet(0, 2, -1));
        due.each("n above 24", BAD, x.sheet(0, 0, 25), x.sheet(0, 1, 25), x.sheet(0, 0, HIGH), x.sheet(3, 1, HIGH));
        row(due, "as it was", x, 0, 11, 12, 13);
    }

    @Says(at = "Promise 29", words = "SIZE.")
    static void sizeOfSheet(Due due) {
        PalmJury x = sheets();
        due.each("n below 0", SIZE, x.sheet(0, 0, -1), x.sheet(0, 1, -1), x.sheet(0, 0, LOW), x.sheet(3, 1, LOW));
        row(due, "as it was", x, 0, 11, 12, 13);
        due.is("missing still", x.reads(3), NOTHING);
    }

    @Says(at = "Promise 30", words = "A place of a SHEET becomes v (of shorts its lowest 16 bits")
    static void lowestBits(Due due) {
        PalmJury x = sheets();
        int[] given = {0, 32767, 32768, -32768, -32769, 65535, 65536, 65537, -1, LOW, HIGH, LOW + 5, 100000};
        int[] held = {0, 32767, -32768, -32768, 32767, -1, 0, 1, -1, 0, -1, 5, -31072};
        for (int i = 0; i < given.length; i++) {
            due.row("short " + given[i], new long[] {1, held[i]}, x.mark(0, 2, given[i]), Acts.place(x, 0, 2));
        }
        row(due, "the others stay", x, 0, 11, 12, -31072);
    }

    @Says(at = "Promise 30", words = "of floats v, -99999 .. 99999; NONE: NO NUMBER): 1.")
    static void floats(Due due) {
        PalmJury x = sheets();
        int[] given = {0, 99999, -99999, 99998, 32768, -32769, 16384, 1, -1};
        for (int v : given) {
            due.row("float " + v, new long[] {1, v}, x.mark(2, 0, v), Acts.place(x, 2, 0));
        }
        due.row("no number, and a number again", new long[] {1, KIND, 1, 7, 1, 8}, x.mark(2, 0, NONE), Acts.place(x, 2, 0), x.mark(2, 0, 7),
            Acts.place(x, 2, 0), x.mark(2, 1, 8), Acts.place(x, 2, 1));
    }

    @Says(at = "Promise 30", words = "BAD: sheet; NOTHING; INDEX;")
    static void badMark(Due due) {
        PalmJury x = sheets();
        due.each("no such sheet", BAD, x.mark(-1, 0, 0), x.mark(4, 0, 0), x.mark(LOW, 0, 0), x.mark(HIGH, 0, 0), x.mark(4, -1, NONE));
        due.each("missing", NOTHING, x.mark(3, 0, 0), x.mark(3, -1, NONE), x.mark(3, 0, 100000));
        due.each("no such place", INDEX, x.mark(0, 3, 0), x.mark(0, -1, 0), x.mark(1, 2, 0), x.mark(2, 3, 0), x.mark(2, LOW, 0), x.mark(2, HIGH, 0),
            x.mark(0, 3, NONE), x.mark(2, 3, 100000));
        x.sheet(3, 1, 0);
        due.each("no places", INDEX, x.mark(3, 0, 0), x.mark(3, -1, 0));
    }

    @Says(at = "Promise 30", words = "KIND: NONE in a row of shorts")
    static void noneInShorts(Due due) {
        PalmJury x = sheets();
        due.each("none", KIND, x.mark(0, 0, NONE), x.mark(0, 2, NONE), x.mark(1, 1, NONE));
        due.row("next to it", new long[] {1, 1}, x.mark(1, 0, NONE + 1), x.mark(1, 1, NONE - 1));
        row(due, "as it was", x, 0, 11, 12, 13);
    }

    @Says(at = "Promise 30", words = "BAD: v of floats.")
    static void badFloats(Due due) {
        PalmJury x = sheets();
        due.each("v", BAD, x.mark(2, 0, 100000), x.mark(2, 0, -100000), x.mark(2, 1, LOW), x.mark(2, 2, HIGH), x.mark(2, 0, NONE + 1), x.mark(2, 0, NONE - 1));
        row(due, "as it was", x, 2, 31, KIND, 33);
    }

    private static void weights(Due due, String what, PalmJury x, int... want) {
        for (int fact = 0; fact < 8; fact++) {
            due.is(what + ", fact " + fact, x.weigh(fact, 0), want[fact]);
        }
    }

    @Says(at = "Promise 31", words = "WEIGHTS of FACTS, by numbers, become the places of a SHEET from 0 on (each held within -50 .. 50")
    static void poursHeld(Due due) {
        PalmJury x = new PalmJury();
        x.sheet(0, 1, 8);
        Acts.mark(x, 0, 50, 51, 99999, -50, -51, -99999, 49, -49);
        due.is("pour", x.pour(0), 8);
        weights(due, "held", x, 50, 50, 50, -50, -50, -50, 49, -49);
        x.sheet(0, 0, 24);
        for (int i = 0; i < 24; i++) {
            x.mark(0, i, i + 1);
        }
        due.is("no more than eight", x.pour(0), 8);
        weights(due, "eight", x, 1, 2, 3, 4, 5, 6, 7, 8);
        x.mark(0, 0, 32767);
        x.mark(0, 1, -32768);
        x.pour(0);
        weights(due, "shorts", x, 50, -50, 3, 4, 5, 6, 7, 8);
    }

    @Says(at = "Promise 31", words = "; NO NUMBER, and beyond the SHEET: they stay)")
    static void poursNot(Due due) {
        PalmJury x = new PalmJury();
        for (int fact = 0; fact < 8; fact++) {
            x.weigh(fact, 10 + fact);
        }
        x.sheet(0, 1, 3);
        Acts.mark(x, 0, 1, NONE, 3);
        x.sheet(1, 0, 0);
        due.row("pour", new long[] {2, 0}, x.pour(0), x.pour(1));
        weights(due, "stay", x, 1, 11, 3, 13, 14, 15, 16, 17);
    }

    @Says(at = "Promise 31", words = "how many are otherwise then.")
    static void otherwise(Due due) {
        PalmJury x = new PalmJury();
        x.sheet(0, 0, 8);
        due.is("all as they were", x.pour(0), 0);
        x.mark(0, 3, 60);
        x.mark(0, 7, -1);
        due.row("two, and none again", new long[] {2, 0}, x.pour(0), x.pour(0));
        x.mark(0, 3, 70);
        due.is("held, so as it was", x.pour(0), 0);
    }

    @Says(at = "Promise 31", words = "BAD; NOTHING.")
    static void badPour(Due due) {
        PalmJury x = sheets();
        due.each("no such sheet", BAD, x.pour(-1), x.pour(4), x.pour(LOW), x.pour(HIGH));
        due.is("missing", x.pour(3), NOTHING);
    }

    @Says(at = "Promise 32", words = "The first place (of numbers alone) at which a SHEET is not whether that JUROR is GUILTY (1, 0")
    static void readsNumbersAlone(Due due) {
        PalmJury x = Acts.plain(0, 1, 1);
        x.weigh(0, -1);
        x.sheet(0, 1, 3);
        due.is("the first is guilty", x.reads(0), 0);
        x.mark(0, 0, 1);
        due.is("all as it is", x.reads(0), NONE);
        x.mark(0, 2, 1);
        due.is("the last is not guilty", x.reads(0), 2);
        Acts.mark(x, 0, 2, -1, 0);
        due.is("2 is neither", x.reads(0), 0);
        x.mark(0, 0, NONE);
        due.is("-1 is neither", x.reads(0), 1);
        x.mark(0, 1, NONE);
        due.is("no numbers, and as it is", x.reads(0), NONE);
        x.mark(0, 2, NONE);
        due.is("no numbers", x.reads(0), NONE);
    }

    @Says(at = "Promise 32", words = "of places that are no JUROR all numbers are not)")
    static void readsNoJuror(Due due) {
        PalmJury x = Acts.plain(0);
        x.sheet(0, 1, 24);
        x.mark(0, 0, 1);
        due.is("0 is not", x.reads(0), 1);
        for (int i = 1; i < 23; i++) {
            x.mark(0, i, NONE);
        }
        due.is("the last", x.reads(0), 23);
        x.mark(0, 23, 1);
        due.is("1 is not", x.reads(0), 23);
        x.mark(0, 23, NONE);
        due.is("no number", x.reads(0), NONE);
        PalmJury nobody = new PalmJury();
        nobody.sheet(0, 0, 1);
        due.is("no jurors", nobody.reads(0), 0);
    }

    @Says(at = "Promise 32", words = "BAD; NOTHING; NONE: there is none.")
    static void badReads(Due due) {
        PalmJury x = sheets();
        due.each("no such sheet", BAD, x.reads(-1), x.reads(4), x.reads(LOW), x.reads(HIGH));
        due.is("missing", x.reads(3), NOTHING);
        x.sheet(3, 0, 0);
        due.is("no places", x.reads(3), NONE);
        x.juror(0, 0, 0);
        x.juror(0, 0, 0);
        x.sheet(3, 0, 1);
        x.mark(3, 0, 1);
        due.is("fewer places than jurors", x.reads(3), NONE);
    }

    @Says(at = "Promise 33", words = "So many places of a SHEET come to another one (or the same), as they were: many.")
    static void copies(Due due) {
        PalmJury x = sheets();
        due.is("to another", x.copy(0, 1, 1, 0, 2), 2);
        row(due, "to another", x, 1, 12, 13);
        row(due, "from it", x, 0, 11, 12, 13);
        due.is("up in the same", x.copy(0, 0, 0, 1, 2), 2);
        row(due, "up in the same", x, 0, 11, 11, 12);
        due.is("down in the same", x.copy(0, 1, 0, 0, 2), 2);
        row(due, "down in the same", x, 0, 11, 12, 12);
        due.is("all onto itself", x.copy(2, 0, 2, 0, 3), 3);
        due.is("no number too", x.copy(2, 0, 2, 1, 2), 2);
        row(due, "no number too", x, 2, 31, 31, KIND);
        due.each("none", 0, x.copy(0, 0, 1, 0, 0), x.copy(0, 3, 1, 2, 0), x.copy(0, 3, 0, 3, 0));
        row(due, "none", x, 1, 12, 13);
    }

    @Says(at = "Promise 33", words = "BAD; NOTHING;")
    static void badCopy(Due due) {
        PalmJury x = sheets();
        due.each("no such sheet", BAD, x.copy(-1, 0, 0, 0, 1), x.copy(4, 0, 0, 0, 1), x.copy(0, 0, -1, 0, 1), x.copy(0, 0, 4, 0, 1), x.copy(LOW, 0, HIGH, 0, 0),
            x.copy(3, 0, 4, 0, 1), x.copy(4, 0, 3, 0, 1), x.copy(4, -1, 0, -1, -1));
        due.each("missing", NOTHING, x.copy(3, 0, 0, 0, 1), x.copy(0, 0, 3, 0, 1), x.copy(3, 0, 3, 0, 0), x.copy(2, 9, 3, 9, 9), x.copy(3, -1, 2, -1, -1));
    }

    @Says(at = "Promise 33", words = "KIND: they are not of one sort")
    static void copyOfAnotherSort(Due due) {
        PalmJury x = sheets();
        due.each("sorts", KIND, x.copy(0, 0, 2, 0, 1), x.copy(2, 0, 0, 0, 1), x.copy(0, 0, 2, 0, 0), x.copy(0, 9, 2, 9, 9), x.copy(2, -1, 1, -1, -1));
        row(due, "as it was", x, 2, 31, KIND, 33);
        row(due, "as it was", x, 0, 11, 12, 13);
    }

    @Says(at = "Promise 33", words = "INDEX. (From a SHEET, its place, to a SHEET, its place.)")
    static void copyBeyond(Due due) {
        PalmJury x = sheets();
        due.each("from", INDEX, x.copy(0, 2, 1, 0, 2), x.copy(0, 3, 1, 0, 1), x.copy(0, 4, 1, 0, 0), x.copy(0, -1, 1, 0, 1), x.copy(0, -1, 1, 0, 0),
            x.copy(0, LOW, 1, 0, 1), x.copy(0, HIGH, 1, 0, 1));
        due.each("to", INDEX, x.copy(0, 0, 1, 1, 2), x.copy(0, 0, 1, 2, 1), x.copy(0, 0, 1, 3, 0), x.copy(0, 0, 1, -1, 1), x.copy(0, 0, 1, -1, 0),
            x.copy(0, 0, 1, LOW, 1), x.copy(0, 0, 1, HIGH, 1));
        due.each("many", INDEX, x.copy(0, 0, 1, 0, 3), x.copy(1, 0, 0, 0, 3), x.copy(0, 0, 0, 0, 4), x.copy(0, 0, 1, 0, -1), x.copy(0, 1, 1, 1, -1),
            x.copy(0, 0, 1, 0, LOW), x.copy(0, 0, 1, 0, HIGH), x.copy(0, 1, 1, 1, HIGH), x.copy(0, LOW, 1, LOW, LOW), x.copy(0, HIGH, 1, HIGH, HIGH));
        row(due, "as it was", x, 0, 11, 12, 13);
        row(due, "as it was", x, 1, 21, 22);
    }

    @Says(at = "Promise 34", words = "A SLOT holds: thing 0 nothing, 1 JUROR k, 2 SHEET k, 3 the number k: what it held (0 .. 3).")
    static void lays(Due due) {
        PalmJury x = sheets();
        x.deal(10);
        for (int slot = 0; slot < 5; slot++) {
            due.row("slot " + slot, new long[] {0, 1, 1, 2, 2, 3, 3, 0}, x.lay(slot, 1, 0), x.lay(slot, 1, 9), x.lay(slot, 2, 0), x.lay(slot, 2, 2),
                x.lay(slot, 3, LOW), x.lay(slot, 3, HIGH), x.lay(slot, 0, HIGH), x.lay(slot, 0, -1));
        }
    }

    @Says(at = "Promise 34", words = "BAD: slot, thing, k")
    static void badLay(Due due) {
        PalmJury x = sheets();
        due.each("no jurors", BAD, x.lay(0, 1, 0), x.lay(0, 1, -1));
        x.juror(0, 0, 0);
        due.each("no such slot", BAD, x.lay(-1, 0, 0), x.lay(5, 0, 0), x.lay(LOW, 3, 0), x.lay(HIGH, 3, 0), x.lay(5, 2, 3));
        due.each("no such thing", BAD, x.lay(0, -1, 0), x.lay(0, 4, 0), x.lay(0, LOW, 0), x.lay(0, HIGH, 0));
        due.each("no such juror", BAD, x.lay(0, 1, 1), x.lay(0, 1, -1), x.lay(0, 1, LOW), x.lay(0, 1, HIGH));
        due.each("no such sheet", BAD, x.lay(0, 2, 4), x.lay(0, 2, -1), x.lay(0, 2, LOW), x.lay(0, 2, HIGH));
        due.is("it holds nothing still", x.lay(0, 3, 1), 0);
    }

    @Says(at = "Promise 34", words = "NOTHING: that SHEET is MISSING.")
    static void layMissing(Due due) {
        PalmJury x = sheets();
        x.lay(0, 3, 17);
        due.row("missing", new long[] {NOTHING, 2, 3}, x.lay(0, 2, 3), x.rest(0, 5), x.lay(0, 3, 1));
        x.sheet(3, 0, 0);
        due.row("no places are not missing", new long[] {3, INDEX}, x.lay(0, 2, 3), x.item(0, 0));
    }

    @Says(at = "Promise 35", words = "WORTH of the JUROR in a SLOT, taken for one of a KIND (0 .. 5).")
    static void asks(Due due) {
        int[] worths = {40, 45, 59, 90, 52, 2};
        int[] of = {0b000001, 0b000011, 0b000101, 0b001011, 0b010101, 0b100001};
        for (int kind = 0; kind < 6; kind++) {
            PalmJury x = Acts.alone(kind, 40, 0);
            x.lay(kind % 5, 1, 0);
            for (int asked = 0; asked < 6; asked++) {
                due.is(kind + " for " + asked, x.ask(kind % 5, asked), (of[kind] >> asked & 1) == 1 ? worths[kind] : KIND);
            }
        }
    }

    @Says(at = "Promise 35", words = "BAD; NOTHING;")
    static void badAsk(Due due) {
        PalmJury x = Acts.alone(0, 3, 0);
        x.lay(0, 1, 0);
        due.each("no such slot", BAD, x.ask(-1, 0), x.ask(5, 0), x.ask(LOW, 0), x.ask(HIGH, 0));
        due.each("no such kind", BAD, x.ask(0, -1), x.ask(0, 6), x.ask(0, LOW), x.ask(0, HIGH), x.ask(1, 6));
        due.each("nothing", NOTHING, x.ask(1, 0), x.ask(4, 5));
        x.lay(0, 0, 0);
        due.is("nothing any more", x.ask(0, 0), NOTHING);
    }

    @Says(at = "Promise 35", words = "KIND: it is no JUROR, or not of that KIND, nor of one under it.")
    static void asksNoJuror(Due due) {
        PalmJury x = sheets();
        x.juror(1, 0, 0);
        x.lay(0, 2, 0);
        x.lay(1, 3, 0);
        x.lay(2, 1, 0);
        due.each("no juror", KIND, x.ask(0, 0), x.ask(0, 5), x.ask(1, 0), x.ask(1, 5));
        due.each("not of that kind, nor of one under it", KIND, x.ask(2, 2), x.ask(2, 3), x.ask(2, 4), x.ask(2, 5));
        due.row("a juror where a number was", new long[] {3, 5, 1}, x.lay(1, 1, 0), x.ask(1, 1), x.lay(1, 3, 4));
        due.is("a number where a juror was", x.ask(1, 1), KIND);
    }

    @Says(at = "Promise 36", words = "A place of the SHEET in a SLOT.")
    static void items(Due due) {
        PalmJury x = new PalmJury();
        x.sheet(0, 1, 24);
        x.mark(0, 0, -99999);
        x.mark(0, 23, 99999);
        x.sheet(1, 0, 1);
        x.mark(1, 0, -32768);
        x.lay(0, 2, 0);
        x.lay(4, 2, 1);
        due.row("places", new long[] {-99999, 0, 99999, -32768}, x.item(0, 0), x.item(0, 1), x.item(0, 23), x.item(4, 0));
        x.lay(0, 2, 1);
        due.row("a shorter one", new long[] {-32768, INDEX}, x.item(0, 0), x.item(0, 1));
    }

    @Says(at = "Promise 36", words = "BAD: slot; NOTHING; KIND: it is no SHEET; INDEX")
    static void badItem(Due due) {
        PalmJury x = sheets();
        x.juror(0, 0, 0);
        x.lay(0, 2, 0);
        x.lay(1, 1, 0);
        x.lay(2, 3, 0);
        due.each("no such slot", BAD, x.item(-1, 0), x.item(5, 0), x.item(LOW, -1), x.item(HIGH, -1));
        due.each("nothing", NOTHING, x.item(3, 0), x.item(4, -1));
        due.each("no sheet", KIND, x.item(1, 0), x.item(1, -1), x.item(2, 0), x.item(2, 99));
        due.each("no such place", INDEX, x.item(0, 3), x.item(0, -1), x.item(0, LOW), x.item(0, HIGH));
        x.sheet(3, 0, 0);
        x.lay(0, 2, 3);
        due.is("no places", x.item(0, 0), INDEX);
    }

    @Says(at = "Promise 36", words = "KIND: NO NUMBER.")
    static void itemNoNumber(Due due) {
        PalmJury x = sheets();
        x.lay(0, 2, 2);
        x.mark(2, 1, 5);
        due.row("as it was", new long[] {31, KIND, 33, INDEX}, x.item(0, 0), x.item(0, 1), x.item(0, 2), x.item(0, 3));
        x.lay(0, 2, 2);
        due.is("a number now", x.item(0, 1), 5);
    }

    @Says(at = "Promise 37", words = "The rest of the number in a SLOT by n.")
    static void rests(Due due) {
        PalmJury x = new PalmJury();
        int[][] rests = {{17, 5, 2}, {-17, 5, -2}, {17, -5, 2}, {-17, -5, -2}, {0, 5, 0}, {5, 5, 0}, {4, 5, 4}, {LOW, -1, 0}, {LOW, 1, 0}, {LOW, HIGH, -1},
            {HIGH, LOW, HIGH}, {LOW, LOW, 0}, {HIGH, 2, 1}, {NONE, 10, -5}};
        for (int[] rest : rests) {
            x.lay(4, 3, rest[0]);
            due.is(rest[0] + " by " + rest[1], x.rest(4, rest[1]), rest[2]);
        }
    }

    @Says(at = "Promise 37", words = "BAD: slot; NOTHING; KIND: it is no number")
    static void badRest(Due due) {
        PalmJury x = sheets();
        x.juror(0, 0, 0);
        x.lay(0, 2, 0);
        x.lay(1, 1, 0);
        due.each("no such slot", BAD, x.rest(-1, 1), x.rest(5, 1), x.rest(LOW, 0), x.rest(HIGH, 0));
        due.each("nothing", NOTHING, x.rest(3, 1), x.rest(4, 0));
        due.each("no number", KIND, x.rest(0, 1), x.rest(0, 0), x.rest(1, 1), x.rest(1, 0));
    }

    @Says(at = "Promise 37", words = "NO: n is 0.")
    static void byZero(Due due) {
        PalmJury x = new PalmJury();
        x.lay(0, 3, 0);
        x.lay(1, 3, LOW);
        x.lay(2, 3, 7);
        due.each("by 0", NO, x.rest(0, 0), x.rest(1, 0), x.rest(2, 0));
        due.row("it is there still", new long[] {0, 0, 1}, x.rest(0, 1), x.rest(1, 2), x.rest(2, 2));
    }
}
