/** A jury of the deaf and the blind, as ../shared/DOC.md tells it. */
public final class PalmJury {
    public static final int BAD = -1000000001, NO = -1000000002, FULL = -1000000003, NONE = -1000000005,
            NOTHING = -1000000011, KIND = -1000000012, INDEX = -1000000013, SIZE = -1000000014;

    private static final int MOST_JURORS = 10, MOST_FACTS = 8, ALL_FACTS = 255, MOST_DOUBT = 40, MOST_WEIGHT = 50;
    private static final int LAST_HOUR = 9999, LAST_TURN = 9, LAST_PATIENCE = 200, MOST_THOUGHT = 60;
    private static final int MOST_TEXTS = 14, MOST_BYTES = 96, MOST_WAITING = 60;
    private static final int MOST_SHEETS = 4, MOST_PLACES = 24, MOST_SLOTS = 5, MOST_IN_FLOATS = 99999;
    private static final int MISSING = -1, SHORTS = 0, FLOATS = 1;
    private static final int JUROR = 0, DOUBTING = 1, SWAYED = 2, FOREMAN = 3, TWIN = 4, MUTE = 5;
    private static final int TRUST = 0, FEE = 1, FINE = 2;
    private static final int HOLDS_NOTHING = 0, HOLDS_JUROR = 1, HOLDS_SHEET = 2, HOLDS_NUMBER = 3;
    private static final int NOBODY = -1;

    private final Laws laws;
    private final Tape tape;
    private final Jury now;
    private final Jury image;
    private final Jury thought;
    private final Row[] sheets;
    private final Slot[] slots;
    private final int[] waiting;
    private int waits;
    private boolean kept;

    public PalmJury() {
        laws = new Laws();
        tape = new Tape();
        now = new Jury(laws);
        image = new Jury(laws);
        thought = new Jury(laws);
        sheets = new Row[MOST_SHEETS];
        for (int i = 0; i < MOST_SHEETS; i++) {
            sheets[i] = new Row();
        }
        slots = new Slot[MOST_SLOTS];
        for (int i = 0; i < MOST_SLOTS; i++) {
            slots[i] = new Slot();
        }
        waiting = new int[MOST_WAITING];
    }

    // ---- jurors, facts

    public int juror(int kind, int side, int doubt) {
        if (!within(kind, JUROR, MUTE) || !within(side, 0, 1) || !within(doubt, 0, MOST_DOUBT)) {
            return BAD;
        }
        if (now.size >= MOST_JURORS) {
            return FULL;
        }
        now.add(kind, side, 0, doubt);
        return now.size - 1;
    }

    public int told(int juror, int what) {
        if (!now.has(juror)) {
            return BAD;
        }
        switch (what) {
            case 0: return now.kind[juror];
            case 1: return now.side[juror];
            case 2: return now.knows[juror];
            case 3: return now.doubt[juror];
            case 4: return now.passed[juror];
            case 5: return now.believes(juror);
            case 6: return now.verdict(juror);
            case 7: return now.partner(juror);
            case 8: return Kinds.worth(now.kind[juror], now.doubt[juror]);
            default: return BAD;
        }
    }

    public int tells(int one, int other) {
        if (!now.has(one) || !now.has(other) || one == other) {
            return BAD;
        }
        int fact = Kinds.passes(now, one, other);
        return fact == 0 ? NONE : Integer.bitCount(fact - 1);
    }

    public int as(int juror, int kind) {
        if (!now.has(juror) || !within(kind, JUROR, MUTE)) {
            return BAD;
        }
        return Kinds.isOf(now.kind[juror], kind) ? now.doubt[juror] : KIND;
    }

    public int turns(int juror, int kind) {
        if (!now.has(juror) || !within(kind, JUROR, MUTE)) {
            return BAD;
        }
        return exchange(now.kind, juror, kind);
    }

    public int set(int juror, int what, int v) {
        if (!now.has(juror)) {
            return BAD;
        }
        switch (what) {
            case 1: return within(v, 0, 1) ? exchange(now.side, juror, v) : BAD;
            case 2: return within(v, 0, ALL_FACTS) ? exchange(now.knows, juror, v) : BAD;
            case 3: return within(v, 0, MOST_DOUBT) ? exchange(now.doubt, juror, v) : BAD;
            default: return BAD;
        }
    }

    public int weigh(int fact, int v) {
        if (!isFact(fact) || !within(v, -MOST_WEIGHT, MOST_WEIGHT)) {
            return BAD;
        }
        return exchange(now.weight, fact, v);
    }

    public int rule(int what, int v) {
        if (!within(what, 0, 2) || !within(v, 0, what == 2 ? LAST_TURN : 100)) {
            return BAD;
        }
        int was;
        if (what == 0) {
            was = now.bar;
            now.bar = v;
        } else if (what == 1) {
            was = now.slip;
            now.slip = v;
        } else {
            was = now.turn;
            now.turn = v;
        }
        return was;
    }

    public int deal(int n) {
        if (!within(n, 1, MOST_JURORS)) {
            return BAD;
        }
        int came = Math.min(n, MOST_JURORS - now.size);
        for (int i = 0; i < came; i++) {
            now.addByLot();
        }
        return came;
    }

    public int seed(int v) {
        int was = now.z;
        now.z = v;
        return was;
    }

    // ---- hours

    public int out(int fact, int way) {
        if (!isFact(fact) || !within(way, 0, 1)) {
            return BAD;
        }
        return now.comesOut(fact, way);
    }

    public int hours(int n) {
        if (!within(n, 1, 100)) {
            return BAD;
        }
        return now.pass(Math.min(n, LAST_HOUR - now.hour), NOBODY);
    }

    public int jury(int what) {
        switch (what) {
            case 0: return now.common();
            case 1: return now.votes();
            case 2: return now.slips;
            case 3: return now.known();
            case 4: return now.any();
            default: return BAD;
        }
    }

    // ---- what will be

    public int behind(int n, int what) {
        if (!within(n, 0, 100) || what < 0 || (what >= 3 && !now.has(what - 3))) {
            return BAD;
        }
        think(n, NOBODY);
        switch (what) {
            case 0: return thought.common();
            case 1: return thought.votes();
            case 2: return thought.slips;
            default: return thought.knows[what - 3];
        }
    }

    public int allKnow() {
        thought.become(now);
        int wanted = now.any();
        for (int n = 0; n <= LAST_PATIENCE; n++) {
            if ((wanted & ~thought.common()) == 0) {
                return n;
            }
            thought.anHour(NOBODY);
        }
        return NONE;
    }

    public int bestTurn(int n, int what) {
        if (!within(n, 1, MOST_THOUGHT) || !within(what, 0, 1)) {
            return BAD;
        }
        int best = 0;
        int most = -1;
        for (int turn = 0; turn <= LAST_TURN; turn++) {
            thought.become(now);
            thought.turn = turn;
            thought.pass(n, NOBODY);
            int known = thought.known();
            if (known > most) {
                most = known;
                best = turn;
            }
        }
        return what == 0 ? best : most;
    }

    public int sure(int n) {
        if (!within(n, 1, MOST_THOUGHT)) {
            return BAD;
        }
        int facts = ALL_FACTS;
        for (int silent = NOBODY; silent < now.size; silent++) {
            think(n, silent);
            facts &= thought.common();
        }
        return facts;
    }

    public int advocate(int n, int what) {
        if (!within(n, 0, MOST_THOUGHT) || !within(what, 0, 1)) {
            return BAD;
        }
        int best = 0;
        int most = -1;
        for (int choice = 0; choice < 2 * MOST_FACTS; choice++) {
            thought.become(now);
            thought.comesOut(choice / 2, choice % 2);
            thought.pass(n, NOBODY);
            int votes = thought.votes();
            if (votes > most) {
                most = votes;
                best = choice;
            }
        }
        return what == 0 ? best : most;
    }

    public int tipped(int n) {
        if (!within(n, 1, MOST_THOUGHT)) {
            return BAD;
        }
        think(n, NOBODY);
        int votes = thought.votes();
        int tipping = 0;
        for (int silent = 0; silent < now.size; silent++) {
            think(n, silent);
            if (thought.votes() != votes) {
                tipping |= 1 << silent;
            }
        }
        return tipping;
    }

    public int weighed(int sheet, int what) {
        if (!isSheet(sheet) || !within(what, 0, 1)) {
            return BAD;
        }
        if (sheets[sheet].sort == MISSING) {
            return NOTHING;
        }
        thought.become(now);
        int best = 0;
        int least = -1;
        for (int fact = 0; fact < MOST_FACTS; fact++) {
            thought.weight[fact] = Math.min(now.weight[fact] + 20, MOST_WEIGHT);
            int apart = apart(thought, sheets[sheet]);
            thought.weight[fact] = now.weight[fact];
            if (least < 0 || apart < least) {
                least = apart;
                best = fact;
            }
        }
        return what == 0 ? best : least;
    }

    public int fee() {
        int text = now.counting[FEE];
        return text < 0 ? now.slips : laws.gives(text, now.hour, now.slips, 0);
    }

    public int fine(int juror) {
        if (!now.has(juror)) {
            return BAD;
        }
        int text = now.counting[FINE];
        return text < 0 ? now.passed[juror] : laws.gives(text, now.passed[juror], now.doubt[juror], 0);
    }

    // ---- texts

    public int feed(int a, int b, int c) {
        if (tape.length > MOST_BYTES - 12) {
            return FULL;
        }
        tape.takes(a);
        tape.takes(b);
        tape.takes(c);
        return tape.length;
    }

    public int trim(int n) {
        if (!within(n, 0, tape.length)) {
            return BAD;
        }
        tape.length = n;
        return n;
    }

    public int text() {
        int fault = tape.faultOfText();
        tape.length = 0;
        if (fault >= 0) {
            return -100 - fault;
        }
        if (now.texts >= MOST_TEXTS) {
            return FULL;
        }
        int number = now.texts;
        laws.at(number).become(tape.law);
        now.counting[held(tape.law.key, TRUST, FINE)] = number;
        now.texts++;
        return number;
    }

    public int textTold(int text, int what) {
        if (!within(text, 0, now.texts - 1) || !within(what, 0, 1)) {
            return BAD;
        }
        Law law = laws.at(text);
        return what == 0 ? law.key : law.leaves;
    }

    public int why(int key) {
        if (!within(key, TRUST, FINE)) {
            return BAD;
        }
        int text = now.counting[key];
        return text < 0 ? NONE : text;
    }

    // ---- sheets, slots

    public int sheet(int sheet, int sort, int n) {
        if (!isSheet(sheet) || !within(sort, MISSING, FLOATS) || (sort != MISSING && n > MOST_PLACES)) {
            return BAD;
        }
        if (sort != MISSING && n < 0) {
            return SIZE;
        }
        sheets[sheet].begin(sort, sort == MISSING ? 0 : n);
        return sheets[sheet].size;
    }

    public int mark(int sheet, int place, int v) {
        if (!isSheet(sheet)) {
            return BAD;
        }
        Row row = sheets[sheet];
        if (row.sort == MISSING) {
            return NOTHING;
        }
        if (!row.has(place)) {
            return INDEX;
        }
        if (row.sort == SHORTS) {
            if (v == NONE) {
                return KIND;
            }
            row.places[place] = (short) v;
            return 1;
        }
        if (v != NONE && !within(v, -MOST_IN_FLOATS, MOST_IN_FLOATS)) {
            return BAD;
        }
        row.places[place] = v;
        return 1;
    }

    public int pour(int sheet) {
        if (!isSheet(sheet)) {
            return BAD;
        }
        Row row = sheets[sheet];
        if (row.sort == MISSING) {
            return NOTHING;
        }
        int changed = 0;
        for (int fact = 0; fact < MOST_FACTS; fact++) {
            if (row.hasNumber(fact)) {
                int weight = held(row.places[fact], -MOST_WEIGHT, MOST_WEIGHT);
                if (exchange(now.weight, fact, weight) != weight) {
                    changed++;
                }
            }
        }
        return changed;
    }

    public int reads(int sheet) {
        if (!isSheet(sheet)) {
            return BAD;
        }
        Row row = sheets[sheet];
        if (row.sort == MISSING) {
            return NOTHING;
        }
        for (int place = 0; place < row.size; place++) {
            if (row.hasNumber(place) && (!now.has(place) || row.places[place] != now.verdict(place))) {
                return place;
            }
        }
        return NONE;
    }

    public int copy(int from, int place, int to, int at, int many) {
        if (!isSheet(from) || !isSheet(to)) {
            return BAD;
        }
        Row source = sheets[from];
        Row target = sheets[to];
        if (source.sort == MISSING || target.sort == MISSING) {
            return NOTHING;
        }
        if (source.sort != target.sort) {
            return KIND;
        }
        if (!source.hasStretch(place, many) || !target.hasStretch(at, many)) {
            return INDEX;
        }
        System.arraycopy(source.places, place, target.places, at, many);
        return many;
    }

    public int lay(int slot, int thing, int k) {
        if (!isSlot(slot) || !within(thing, HOLDS_NOTHING, HOLDS_NUMBER)) {
            return BAD;
        }
        if ((thing == HOLDS_JUROR && !now.has(k)) || (thing == HOLDS_SHEET && !isSheet(k))) {
            return BAD;
        }
        if (thing == HOLDS_SHEET && sheets[k].sort == MISSING) {
            return NOTHING;
        }
        Slot place = slots[slot];
        int held = place.thing;
        place.thing = thing;
        if (thing == HOLDS_JUROR) {
            place.kind = now.kind[k];
            place.doubt = now.doubt[k];
        } else if (thing == HOLDS_SHEET) {
            place.row.become(sheets[k]);
        } else {
            place.number = k;
        }
        return held;
    }

    public int ask(int slot, int kind) {
        if (!isSlot(slot) || !within(kind, JUROR, MUTE)) {
            return BAD;
        }
        Slot place = slots[slot];
        if (place.thing == HOLDS_NOTHING) {
            return NOTHING;
        }
        if (place.thing != HOLDS_JUROR || !Kinds.isOf(place.kind, kind)) {
            return KIND;
        }
        return Kinds.worth(place.kind, place.doubt);
    }

    public int item(int slot, int place) {
        if (!isSlot(slot)) {
            return BAD;
        }
        Slot holder = slots[slot];
        if (holder.thing == HOLDS_NOTHING) {
            return NOTHING;
        }
        if (holder.thing != HOLDS_SHEET) {
            return KIND;
        }
        if (!holder.row.has(place)) {
            return INDEX;
        }
        return holder.row.hasNumber(place) ? holder.row.places[place] : KIND;
    }

    public int rest(int slot, int n) {
        if (!isSlot(slot)) {
            return BAD;
        }
        Slot place = slots[slot];
        if (place.thing == HOLDS_NOTHING) {
            return NOTHING;
        }
        if (place.thing != HOLDS_NUMBER) {
            return KIND;
        }
        return n == 0 ? NO : place.number % n;
    }

    // ---- rows, images

    public int tell(int v) {
        if (waits >= MOST_WAITING) {
            return FULL;
        }
        waiting[waits] = v;
        waits++;
        return waits;
    }

    public int check(int n) {
        int said = waits;
        waits = 0;
        if (!within(n, 1, 30)) {
            return BAD;
        }
        if (!kept) {
            return NO;
        }
        thought.become(image);
        int due = 2 * Math.min(n, LAST_HOUR - image.hour);
        for (int place = 0; place < due; place += 2) {
            thought.anHour(NOBODY);
            if (!isSaid(said, place, thought.known())) {
                return 1 + place;
            }
            if (!isSaid(said, place + 1, thought.votes())) {
                return 2 + place;
            }
        }
        return said > due ? 1 + due : 0;
    }

    public int keep() {
        image.become(now);
        kept = true;
        return now.size;
    }

    public int back() {
        if (!kept) {
            return NO;
        }
        now.become(image);
        return now.size;
    }

    public int count(int what) {
        switch (what) {
            case 0: return now.size;
            case 1: return now.hour;
            case 2: return now.bar;
            case 3: return now.slip;
            case 4: return now.turn;
            case 5: return now.votes();
            case 6: return now.texts;
            case 7: return waits;
            case 8: return tape.length;
            case 9: return now.z;
            default: return BAD;
        }
    }

    // ---- helpers

    private void think(int n, int silent) {
        thought.become(now);
        thought.pass(n, silent);
    }

    private boolean isSaid(int said, int place, int v) {
        return place < said && place < MOST_WAITING && waiting[place] == v;
    }

    private static int apart(Jury jury, Row row) {
        int sum = 0;
        for (int place = 0; place < row.size; place++) {
            if (row.hasNumber(place)) {
                int believed = jury.has(place) ? jury.believes(place) : 0;
                sum += Math.abs(believed - row.places[place]);
            }
        }
        return sum;
    }

    private static boolean isFact(int fact) {
        return within(fact, 0, MOST_FACTS - 1);
    }

    private static boolean isSheet(int sheet) {
        return within(sheet, 0, MOST_SHEETS - 1);
    }

    private static boolean isSlot(int slot) {
        return within(slot, 0, MOST_SLOTS - 1);
    }

    private static boolean within(int v, int least, int most) {
        return v >= least && v <= most;
    }

    private static int held(int v, int least, int most) {
        return Math.max(least, Math.min(most, v));
    }

    /** Puts v in a row at a place that the caller has looked at: what stood there. */
    private static int exchange(int[] row, int place, int v) {
        int was = row[place];
        row[place] = v;
        return was;
    }

    /** What the kinds of jurors do in their own ways; one that is not named does as the one above it. */
    static final class Kinds {
        private Kinds() {
        }

        static int above(int kind) {
            switch (kind) {
                case FOREMAN: return DOUBTING;
                case TWIN: return SWAYED;
                default: return JUROR;
            }
        }

        static boolean isOf(int kind, int wanted) {
            return kind == wanted || above(kind) == wanted || wanted == JUROR;
        }

        static int worth(int kind, int doubt) {
            switch (kind) {
                case DOUBTING: return doubtingWorth(doubt);
                case FOREMAN: return 2 * doubtingWorth(doubt);
                case SWAYED: return swayedWorth(doubt);
                case TWIN: return swayedWorth(doubt) - 7;
                case MUTE: return 2;
                default: return doubt;
            }
        }

        private static int doubtingWorth(int doubt) {
            return doubt + 5;
        }

        private static int swayedWorth(int doubt) {
            return 99 - doubt;
        }

        static int belief(int kind, int asJuror, int doubt) {
            switch (kind) {
                case DOUBTING: return doubtingBelief(asJuror, doubt);
                case FOREMAN: return (doubtingBelief(asJuror, doubt) + 50) / 2;
                case SWAYED: return swayedBelief(asJuror);
                case TWIN: return 100 - swayedBelief(asJuror);
                default: return asJuror;
            }
        }

        private static int doubtingBelief(int asJuror, int doubt) {
            return Math.max(0, asJuror - doubt);
        }

        private static int swayedBelief(int asJuror) {
            int push = asJuror > 50 ? 10 : asJuror < 50 ? -10 : 0;
            return held(asJuror + push, 0, 100);
        }

        /** The fact that one juror tells another one, as a set of one; 0: none. */
        static int passes(Jury jury, int one, int other) {
            int facts = jury.knows[one] & ~jury.knows[other];
            switch (jury.kind[one]) {
                case DOUBTING:
                case FOREMAN: return greatest(facts);
                case SWAYED:
                case TWIN: return least(facts & jury.swaying());
                case MUTE: return 0;
                default: return least(facts);
            }
        }

        private static int least(int facts) {
            return facts & -facts;
        }

        private static int greatest(int facts) {
            for (int fact = MOST_FACTS - 1; fact >= 0; fact--) {
                if ((facts >> fact & 1) != 0) {
                    return 1 << fact;
                }
            }
            return 0;
        }
    }

    /** All that an image keeps: the jury as it is, as it was kept, or as it is thought to become. */
    static final class Jury {
        final Laws laws;
        final int[] kind = new int[MOST_JURORS];
        final int[] side = new int[MOST_JURORS];
        final int[] knows = new int[MOST_JURORS];
        final int[] doubt = new int[MOST_JURORS];
        final int[] passed = new int[MOST_JURORS];
        final int[] weight = new int[MOST_FACTS];
        /** Of each key the text that counts; below 0: none. */
        final int[] counting = {-1, -1, -1};
        int size;
        int bar = 50;
        int slip = 10;
        int turn;
        int slips;
        int hour;
        int z = 1;
        int texts;

        Jury(Laws laws) {
            this.laws = laws;
        }

        void become(Jury other) {
            System.arraycopy(other.kind, 0, kind, 0, MOST_JURORS);
            System.arraycopy(other.side, 0, side, 0, MOST_JURORS);
            System.arraycopy(other.knows, 0, knows, 0, MOST_JURORS);
            System.arraycopy(other.doubt, 0, doubt, 0, MOST_JURORS);
            System.arraycopy(other.passed, 0, passed, 0, MOST_JURORS);
            System.arraycopy(other.weight, 0, weight, 0, MOST_FACTS);
            System.arraycopy(other.counting, 0, counting, 0, 3);
            size = other.size;
            bar = other.bar;
            slip = other.slip;
            turn = other.turn;
            slips = other.slips;
            hour = other.hour;
            z = other.z;
            texts = other.texts;
        }

        boolean has(int juror) {
            return juror >= 0 && juror < size;
        }

        void add(int itsKind, int itsSide, int itKnows, int itsDoubt) {
            if (size >= MOST_JURORS) {
                return;
            }
            kind[size] = itsKind;
            side[size] = itsSide;
            knows[size] = itKnows;
            doubt[size] = itsDoubt;
            passed[size] = 0;
            size++;
        }

        void addByLot() {
            int itsKind = draw() % 6;
            int itsSide = draw() % 2;
            int itKnows = draw() % 256;
            int itsDoubt = draw() % 30;
            add(itsKind, itsSide, itKnows, itsDoubt);
        }

        private int draw() {
            z = z * 1103515245 + 12345;
            return z >>> 8;
        }

        /** A fact is shown or said: how many know it only now. */
        int comesOut(int fact, int way) {
            int bit = 1 << fact;
            int came = 0;
            for (int i = 0; i < size; i++) {
                if (side[i] == way && (knows[i] & bit) == 0) {
                    knows[i] |= bit;
                    came++;
                }
            }
            return came;
        }

        int partner(int juror) {
            return size < 1 ? juror : Math.floorMod(hour + turn - juror, size);
        }

        /** The facts with a weight above 0. */
        int swaying() {
            int facts = 0;
            for (int fact = 0; fact < MOST_FACTS; fact++) {
                if (weight[fact] > 0) {
                    facts |= 1 << fact;
                }
            }
            return facts;
        }

        /** So many hours, in which one juror may be silent: how many facts were passed. */
        int pass(int n, int silent) {
            int told = 0;
            for (int i = 0; i < n; i++) {
                told += anHour(silent);
            }
            return told;
        }

        int anHour(int silent) {
            int told = 0;
            for (int one = 0; one < size; one++) {
                int other = partner(one);
                if (other > one) {
                    if (draw() % 100 < slip) {
                        slips++;
                    } else {
                        told += palms(one, other, silent);
                    }
                }
            }
            hour++;
            return told;
        }

        private int palms(int one, int other, int silent) {
            // Both choose ahead of the hour's telling, as the document has it, and only then learn.
            int first = one == silent ? 0 : Kinds.passes(this, one, other);
            int second = other == silent ? 0 : Kinds.passes(this, other, one);
            knows[other] |= first;
            knows[one] |= second;
            int byOne = first == 0 ? 0 : 1;
            int byOther = second == 0 ? 0 : 1;
            passed[one] += byOne;
            passed[other] += byOther;
            return byOne + byOther;
        }

        int believes(int juror) {
            return Kinds.belief(kind[juror], trusts(juror), doubt[juror]);
        }

        private int trusts(int juror) {
            int weights = 0;
            for (int fact = 0; fact < MOST_FACTS; fact++) {
                if ((knows[juror] >> fact & 1) != 0) {
                    weights += weight[fact];
                }
            }
            int text = counting[TRUST];
            int given = text < 0 ? 50 + weights
                    : laws.gives(text, Integer.bitCount(knows[juror]), weights, doubt[juror]);
            return held(given, 0, 100);
        }

        /** 1: guilty, 0: not. */
        int verdict(int juror) {
            return believes(juror) >= bar ? 1 : 0;
        }

        int votes() {
            int sum = 0;
            for (int i = 0; i < size; i++) {
                if (believes(i) >= bar) {
                    sum++;
                }
            }
            return sum;
        }

        int common() {
            int facts = ALL_FACTS;
            for (int i = 0; i < size; i++) {
                facts &= knows[i];
            }
            return facts;
        }

        int any() {
            int facts = 0;
            for (int i = 0; i < size; i++) {
                facts |= knows[i];
            }
            return facts;
        }

        int known() {
            int sum = 0;
            for (int i = 0; i < size; i++) {
                sum += Integer.bitCount(knows[i]);
            }
            return sum;
        }
    }

    /**
     * The texts, by their numbers. A text below an image's number of texts is never written over: the jury that is now
     * never has fewer texts than the image, so the image need not hold texts of its own.
     */
    static final class Laws {
        private final Law[] all;
        private final int[] stack = new int[MOST_BYTES];

        Laws() {
            all = new Law[MOST_TEXTS];
            for (int i = 0; i < MOST_TEXTS; i++) {
                all[i] = new Law();
            }
        }

        Law at(int text) {
            return all[text >= 0 && text < MOST_TEXTS ? text : 0];
        }

        /** What a text gives, with the values of its key's names in their order. */
        int gives(int text, int first, int second, int third) {
            return at(text).work(stack, first, second, third);
        }
    }

    /** A text as it is worked out: numbers, names (-1, -2, -3) and signs (less than that), each sign behind its sides. */
    static final class Law {
        private static final int FIRST_NAME = -1, SECOND_NAME = -2, THIRD_NAME = -3;

        int key;
        int leaves;
        private final int[] code = new int[MOST_BYTES];
        private int length;

        void begin(int itsKey) {
            key = itsKey;
            leaves = 0;
            length = 0;
        }

        void become(Law other) {
            key = other.key;
            leaves = other.leaves;
            length = other.length;
            System.arraycopy(other.code, 0, code, 0, MOST_BYTES);
        }

        void addNumber(int v) {
            leaves++;
            add(v);
        }

        void addName(int which) {
            leaves++;
            add(FIRST_NAME - which);
        }

        void addSign(int sign) {
            add(-sign);
        }

        private void add(int v) {
            if (length < MOST_BYTES) {
                code[length] = v;
                length++;
            }
        }

        int work(int[] stack, int first, int second, int third) {
            int top = 0;
            for (int i = 0; i < length; i++) {
                int step = code[i];
                if (step >= THIRD_NAME) {
                    if (top >= stack.length) {
                        return 0;
                    }
                    stack[top] = step >= 0 ? step : named(step, first, second, third);
                    top++;
                } else if (step == -'!') {
                    if (top < 1) {
                        return 0;
                    }
                    stack[top - 1] = stack[top - 1] == 0 ? 1 : 0;
                } else {
                    if (top < 2) {
                        return 0;
                    }
                    top--;
                    stack[top - 1] = joined(-step, stack[top - 1], stack[top]);
                }
            }
            return top < 1 ? 0 : stack[0];
        }

        private static int named(int name, int first, int second, int third) {
            switch (name) {
                case FIRST_NAME: return first;
                case SECOND_NAME: return second;
                default: return third;
            }
        }

        private static int joined(int sign, int a, int b) {
            switch (sign) {
                case '+': return a + b;
                case '-': return a - b;
                case '*': return a * b;
                case '/': return b == 0 ? 0 : a / b;
                case '<': return a < b ? 1 : 0;
                case '=': return a == b ? 1 : 0;
                case '>': return a > b ? 1 : 0;
                case '&': return a != 0 && b != 0 ? 1 : 0;
                default: return a != 0 || b != 0 ? 1 : 0;
            }
        }
    }

    /** The tape, and the reading of a text from it, a word or sign at a time. */
    static final class Tape {
        private static final int END = 0, LETTERS = 1, DIGITS = 2, SIGN = 3;
        private static final int TEST = 2, PIECE = 5, MOST_OPEN = 8;

        int length;
        private final int[] bytes = new int[MOST_BYTES];
        /** The text that was read last, as far as it went. */
        final Law law = new Law();
        /** The first byte of the word or sign at hand, the byte behind it, what it is, and if it lacks a blank. */
        private int from;
        private int to;
        private int sort;
        private boolean stuck;

        void takes(int four) {
            for (int shift = 24; shift >= 0; shift -= 8) {
                if (length < MOST_BYTES) {
                    bytes[length] = four >>> shift & 255;
                    length++;
                }
            }
        }

        /** Reads all as a text: the place of its fault, or -1. */
        int faultOfText() {
            to = 0;
            sort = SIGN;
            step();
            int key = keyAtHand();
            if (key < 0) {
                return from;
            }
            law.begin(key);
            step();
            return level(0, 0, 0) && sort == END ? -1 : from;
        }

        private int byteAt(int place) {
            return place >= 0 && place < length && place < MOST_BYTES ? bytes[place] : -1;
        }

        private static int sortOf(int b) {
            if (b < 0) {
                return END;
            }
            if (b >= 'a' && b <= 'z') {
                return LETTERS;
            }
            return b >= '0' && b <= '9' ? DIGITS : SIGN;
        }

        private void step() {
            int behind = to;
            boolean behindWord = sort == LETTERS || sort == DIGITS;
            from = to;
            while (from < length && byteAt(from) == ' ') {
                from++;
            }
            sort = sortOf(byteAt(from));
            stuck = behindWord && from == behind && (sort == LETTERS || sort == DIGITS);
            if (sort == END) {
                to = from;
                return;
            }
            to = from + 1;
            while (sort != SIGN && to < length && sortOf(byteAt(to)) == sort) {
                to++;
            }
        }

        private int keyAtHand() {
            for (int key = TRUST; key <= FINE; key++) {
                if (isWord(wordOf(key))) {
                    return key;
                }
            }
            return -1;
        }

        private boolean isWord(String word) {
            if (to - from != word.length()) {
                return false;
            }
            for (int i = 0; i < word.length(); i++) {
                if (byteAt(from + i) != word.charAt(i)) {
                    return false;
                }
            }
            return true;
        }

        private static String wordOf(int key) {
            return key == TRUST ? "trust" : key == FEE ? "fee" : "fine";
        }

        private static String namesOf(int key) {
            return key == TRUST ? "kwd" : key == FEE ? "hs" : "pb";
        }

        private static String signsOf(int level) {
            switch (level) {
                case 0: return "|";
                case 1: return "&";
                case TEST: return "<=>";
                case 3: return "+-";
                default: return "*/";
            }
        }

        private boolean isSignOf(String signs) {
            return sort == SIGN && signs.indexOf((char) byteAt(from)) >= 0;
        }

        /** Reads what stands at a level, the loosest being 0; open and nots: how many ( and ! are open around it. */
        private boolean level(int level, int open, int nots) {
            if (level >= PIECE) {
                return piece(open, nots);
            }
            if (!level(level + 1, open, nots)) {
                return false;
            }
            for (int i = 0; i < MOST_BYTES && isSignOf(signsOf(level)); i++) {
                int sign = byteAt(from);
                step();
                if (!level(level + 1, open, nots)) {
                    return false;
                }
                law.addSign(sign);
                if (level == TEST) {
                    return true;
                }
            }
            return true;
        }

        private boolean piece(int open, int nots) {
            if (stuck) {
                return false;
            }
            if (sort == DIGITS) {
                return number();
            }
            if (sort == LETTERS) {
                return name();
            }
            if (nots < MOST_OPEN && isSignOf("!")) {
                step();
                if (!piece(open, nots + 1)) {
                    return false;
                }
                law.addSign('!');
                return true;
            }
            if (open < MOST_OPEN && isSignOf("(")) {
                step();
                if (!level(0, open + 1, nots) || !isSignOf(")")) {
                    return false;
                }
                step();
                return true;
            }
            return false;
        }

        private boolean number() {
            if (to - from > 4) {
                return false;
            }
            int v = 0;
            for (int i = from; i < to; i++) {
                v = v * 10 + byteAt(i) - '0';
            }
            law.addNumber(v);
            step();
            return true;
        }

        private boolean name() {
            int which = to - from == 1 ? namesOf(law.key).indexOf((char) byteAt(from)) : -1;
            if (which < 0) {
                return false;
            }
            law.addName(which);
            step();
            return true;
        }
    }

    /** A sheet, or what a slot holds of one: whole numbers, in floats also NONE for no number. */
    static final class Row {
        int sort = MISSING;
        int size;
        final int[] places = new int[MOST_PLACES];

        void begin(int itsSort, int n) {
            sort = itsSort;
            size = held(n, 0, MOST_PLACES);
            for (int i = 0; i < MOST_PLACES; i++) {
                places[i] = 0;
            }
        }

        void become(Row other) {
            sort = other.sort;
            size = other.size;
            System.arraycopy(other.places, 0, places, 0, MOST_PLACES);
        }

        boolean has(int place) {
            return place >= 0 && place < size;
        }

        boolean hasNumber(int place) {
            return has(place) && places[place] != NONE;
        }

        /** Written without sums: place and many may be any ints. */
        boolean hasStretch(int place, int many) {
            return place >= 0 && many >= 0 && many <= size && place <= size - many;
        }
    }

    /** A place for a juror as it was (only what its worth needs), a sheet as it was, or a number. */
    static final class Slot {
        int thing = HOLDS_NOTHING;
        int kind;
        int doubt;
        int number;
        final Row row = new Row();
    }
}
