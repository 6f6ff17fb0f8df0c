import java.util.Arrays;

/** Coughs in a hall, as the document (../shared/DOC.md) tells them; words in capitals are the document's. */
public final class HallCoughs {
    public static final int BAD = -1000000001, NO = -1000000002, FULL = -1000000003, NONE = -1000000005,
        NOTHING = -1000000011, KIND = -1000000012, INDEX = -1000000013, SIZE = -1000000014;

    private static final int MOST_PEOPLE = 10, SEATS = 30, AGES = 100, ITCHES = 1000, SWEETS = 100, DRYS = 100, NEARS = 10;
    private static final int MOST_BARS = 24, LOUDS = 100, LAST_SECOND = 99999;
    private static final int FARTHEST = 200, FARTHEST_BY_TRIES = 60, FARTHEST_BY_PAIRS = 40, FARTHEST_TOLD = 30;
    private static final int SWEET_GIVEN = 40;
    /** More than any HARM or COUGHS can be, so that the first that is tried is the least so far. */
    private static final int FAR_ABOVE = 2147483647;
    private static final int MOST_GROWS = 99, MOST_HARM_AT_ONCE = 9999;

    private static final int COUGHER = 0, KEEPER = 1, COVERED = 2, FOLLOWER = 3, BORED = 4, SIGN = 5, KINDS = 6;
    private static final int[] ABOVE = {-1, COUGHER, COUGHER, KEEPER, COVERED, COUGHER};

    private static final int ITCH_KEY = 0, HARM_KEY = 1, FINE_KEY = 2, KEYS = 3;
    private static final int MOST_TEXTS = 14, TAPE_BYTES = 96, FED_BYTES = 12, FAULT_BASE = -100;

    private static final int SHEETS = 4, PLACES = 24, MISSING = -1, SHORTS = 0, FLOATS = 1, FLOAT_BOUND = 99999;
    /** No float of a SHEET can be NONE, so it stands in a row for NO NUMBER. */
    private static final int NO_NUMBER = NONE;

    private static final int SLOTS = 5, HOLDS_NOTHING = 0, HOLDS_ONE = 1, HOLDS_SHEET = 2, HOLDS_NUMBER = 3, THINGS = 4;
    private static final int MOST_WAITING = 60;

    private final Hall now = new Hall();
    private final Hall image = new Hall();
    /** Used again for all that is only thought, so that no call makes a hall of its own. */
    private final Hall thought = new Hall();
    private final Reader reader = new Reader();
    private final Row[] sheets = new Row[SHEETS];
    private final Slot[] slots = new Slot[SLOTS];
    private final byte[] tape = new byte[TAPE_BYTES];
    private final int[] waiting = new int[MOST_WAITING];
    private boolean imageKept;
    private int tapeLength;
    private int waits;

    public HallCoughs() {
        for (int k = 0; k < SHEETS; k++) {
            sheets[k] = new Row();
        }
        for (int k = 0; k < SLOTS; k++) {
            slots[k] = new Slot();
        }
    }

    // ---- people

    public int person(int kind, int seat, int age) {
        if (!within(kind, KINDS) || !within(seat, SEATS) || !within(age, AGES)) {
            return BAD;
        }
        if (now.whoSits(seat) >= 0) {
            return NO;
        }
        return now.size >= MOST_PEOPLE ? FULL : now.comes(kind, seat, age);
    }

    public int told(int person, int what) {
        if (!now.has(person)) {
            return BAD;
        }
        Person one = now.people[person];
        switch (what) {
            case 0: return one.kind;
            case 1: return one.seat;
            case 2: return one.age;
            case 3: return one.itch;
            case 4: return one.sweet;
            case 5: return one.coughs;
            case 6: return now.grows(one);
            case 7: return now.letsGo(person, now.loudIn(0)) ? 1 : 0;
            case 8: return one.worth();
            default: return BAD;
        }
    }

    public int as(int person, int kind) {
        if (!now.has(person) || !within(kind, KINDS)) {
            return BAD;
        }
        Person one = now.people[person];
        return one.isOf(kind) ? one.age : KIND;
    }

    public int turns(int person, int kind) {
        if (!now.has(person) || !within(kind, KINDS)) {
            return BAD;
        }
        Person one = now.people[person];
        int was = one.kind;
        one.kind = kind;
        return was;
    }

    public int set(int person, int what, int v) {
        if (!now.has(person)) {
            return BAD;
        }
        switch (what) {
            case 2: return within(v, AGES) ? now.people[person].changeAge(v) : BAD;
            case 3: return within(v, ITCHES) ? now.people[person].changeItch(v) : BAD;
            case 4: return within(v, SWEETS) ? now.people[person].changeSweet(v) : BAD;
            default: return BAD;
        }
    }

    public int move(int person, int seat) {
        if (!now.has(person) || !within(seat, SEATS)) {
            return BAD;
        }
        int there = now.whoSits(seat);
        if (there >= 0 && there != person) {
            return NO;
        }
        Person one = now.people[person];
        int was = one.seat;
        one.seat = seat;
        return was;
    }

    public int onSeat(int seat) {
        if (!within(seat, SEATS)) {
            return BAD;
        }
        int there = now.whoSits(seat);
        return there < 0 ? NONE : there;
    }

    public int deal(int n) {
        if (n < 1 || n > MOST_PEOPLE) {
            return BAD;
        }
        int coming = Math.min(n, MOST_PEOPLE - now.size);
        for (int k = 0; k < coming; k++) {
            now.comesByLot();
        }
        return coming;
    }

    public int seed(int v) {
        int was = now.z;
        now.z = v;
        return was;
    }

    // ---- the hall, music

    public int hall(int what, int v) {
        int was;
        if (what == 0 && within(v, DRYS)) {
            was = now.dry;
            now.dry = v;
        } else if (what == 1 && within(v, NEARS)) {
            was = now.near;
            now.near = v;
        } else {
            was = BAD;
        }
        return was;
    }

    public int bars(int n) {
        if (n < 1 || n > MOST_BARS) {
            return BAD;
        }
        int were = now.bars;
        for (int k = were; k < n; k++) {
            now.loud[k] = 0;
        }
        now.bars = n;
        return were;
    }

    public int loud(int bar, int v) {
        if (!within(bar, now.bars) || !within(v, LOUDS)) {
            return BAD;
        }
        int was = now.loud[bar];
        now.loud[bar] = v;
        return was;
    }

    public int music(int t) {
        return t < 0 || t > 99 ? BAD : now.loudIn(t);
    }

    // ---- seconds

    public int run(int n) {
        return n < 1 || n > FARTHEST ? BAD : now.passSeconds(now.upToTheLast(n));
    }

    public int did() {
        return now.did;
    }

    public int behind(int n, int what) {
        if (n < 0 || n > FARTHEST || what < 0 || what > 2) {
            return BAD;
        }
        thought.becomes(now);
        thought.passSeconds(n);
        switch (what) {
            case 0: return thought.allCoughs();
            case 1: return thought.harm;
            default: return thought.greatestItch();
        }
    }

    public int first() {
        thought.becomes(now);
        for (int k = 1; k <= FARTHEST; k++) {
            if (thought.passSecond() > 0) {
                return k;
            }
        }
        return NONE;
    }

    public int rest(int n) {
        if (n < 1 || n > FARTHEST_BY_TRIES) {
            return BAD;
        }
        int best = 0;
        int least = FAR_ABOVE;
        for (int bar = 0; bar < now.bars; bar++) {
            thought.becomes(now);
            thought.loud[bar] = 0;
            thought.passSeconds(n);
            if (thought.harm < least) {
                least = thought.harm;
                best = bar;
            }
        }
        return best;
    }

    public int change(int n) {
        if (n < 1 || n > FARTHEST_BY_PAIRS) {
            return BAD;
        }
        int best = NONE;
        int fewest = FAR_ABOVE;
        for (int p = 0; p < now.size; p++) {
            for (int q = p + 1; q < now.size; q++) {
                thought.becomes(now);
                thought.swapSeats(p, q);
                thought.passSeconds(n);
                int coughs = thought.allCoughs();
                if (coughs < fewest) {
                    fewest = coughs;
                    best = 100 * p + q;
                }
            }
        }
        return best;
    }

    public int sweet(int n) {
        if (n < 1 || n > FARTHEST_BY_TRIES) {
            return BAD;
        }
        int best = NONE;
        int least = FAR_ABOVE;
        for (int p = 0; p < now.size; p++) {
            thought.becomes(now);
            thought.people[p].sweet = SWEET_GIVEN;
            thought.passSeconds(n);
            if (thought.harm < least) {
                least = thought.harm;
                best = p;
            }
        }
        return best;
    }

    public int setOff(int p, int q, int n) {
        if (!now.has(p) || !now.has(q) || p == q || n < 1 || n > FARTHEST) {
            return BAD;
        }
        thought.becomes(now);
        int many = 0;
        for (int k = 0; k < n; k++) {
            boolean ahead = thought.hasCoughed(q);
            thought.passSecond();
            if (ahead && thought.hasCoughed(p)) {
                many++;
            }
        }
        return many;
    }

    public int loudest() {
        int best = NONE;
        int most = -1;
        for (int p = 0; p < now.size; p++) {
            if (now.people[p].coughs > most) {
                most = now.people[p].coughs;
                best = p;
            }
        }
        return best;
    }

    public int toldBy(int sheet, int p, int what) {
        if (!within(sheet, SHEETS) || !now.has(p) || what < 0 || what > 1) {
            return BAD;
        }
        Row row = sheets[sheet];
        if (row.sort == MISSING) {
            return NOTHING;
        }
        int best = 0;
        int fewest = FAR_ABOVE;
        for (int kind = 0; kind < KINDS; kind++) {
            int others = secondsOtherwise(row, p, kind);
            if (others < fewest) {
                fewest = others;
                best = kind;
            }
        }
        return what == 0 ? best : fewest;
    }

    public int fine(int person) {
        return now.has(person) ? now.fineOf(now.people[person]) : BAD;
    }

    // ---- texts

    public int feed(int a, int b, int c) {
        if (tapeLength + FED_BYTES > TAPE_BYTES) {
            return FULL;
        }
        putBytes(a);
        putBytes(b);
        putBytes(c);
        return tapeLength;
    }

    public int trim(int n) {
        if (n < 0 || n > tapeLength) {
            return BAD;
        }
        tapeLength = n;
        return n;
    }

    public int text() {
        Text read = reader.readTape(tape, tapeLength);
        tapeLength = 0;
        if (read == null) {
            return FAULT_BASE - reader.fault;
        }
        return now.texts >= MOST_TEXTS ? FULL : now.takesText(read);
    }

    public int textTold(int text, int what) {
        Text one = now.lawAt(text);
        if (one == null || what < 0 || what > 1) {
            return BAD;
        }
        return what == 0 ? one.key : one.leaves;
    }

    public int why(int key) {
        if (!within(key, KEYS)) {
            return BAD;
        }
        return now.counting[key] < 0 ? NONE : now.counting[key];
    }

    // ---- sheets, slots

    public int sheet(int sheet, int sort, int n) {
        if (!within(sheet, SHEETS) || sort < MISSING || sort > FLOATS) {
            return BAD;
        }
        if (sort == MISSING) {
            sheets[sheet].clears(MISSING, 0);
            return 0;
        }
        if (n > PLACES) {
            return BAD;
        }
        if (n < 0) {
            return SIZE;
        }
        sheets[sheet].clears(sort, n);
        return n;
    }

    public int mark(int sheet, int place, int v) {
        if (!within(sheet, SHEETS)) {
            return BAD;
        }
        Row row = sheets[sheet];
        if (row.sort == MISSING) {
            return NOTHING;
        }
        if (!within(place, row.size)) {
            return INDEX;
        }
        if (row.sort == SHORTS) {
            if (v == NONE) {
                return KIND;
            }
            row.places[place] = (short) v;
            return 1;
        }
        if (v != NONE && (v < -FLOAT_BOUND || v > FLOAT_BOUND)) {
            return BAD;
        }
        row.places[place] = v == NONE ? NO_NUMBER : v;
        return 1;
    }

    public int pour(int sheet) {
        if (!within(sheet, SHEETS)) {
            return BAD;
        }
        Row row = sheets[sheet];
        if (row.sort == MISSING) {
            return NOTHING;
        }
        int otherwise = 0;
        for (int k = 0; k < row.size && k < now.bars; k++) {
            int poured = row.isNumber(k) ? held(row.places[k], LOUDS - 1) : now.loud[k];
            if (poured != now.loud[k]) {
                now.loud[k] = poured;
                otherwise++;
            }
        }
        return otherwise;
    }

    public int reads(int sheet) {
        if (!within(sheet, SHEETS)) {
            return BAD;
        }
        Row row = sheets[sheet];
        if (row.sort == MISSING) {
            return NOTHING;
        }
        for (int k = 0; k < row.size; k++) {
            if (row.isNumber(k) && row.places[k] != now.loudIn(k)) {
                return k;
            }
        }
        return NONE;
    }

    public int copy(int from, int place, int to, int at, int many) {
        if (!within(from, SHEETS) || !within(to, SHEETS)) {
            return BAD;
        }
        Row source = sheets[from];
        Row target = sheets[to];
        if (source.sort == MISSING || target.sort == MISSING) {
            return NOTHING;
        }
        if (source.sort != target.sort) {
            return KIND;
        }
        if (!source.hasStretch(place, many) || !target.hasStretch(at, many)) {
            return INDEX;
        }
        System.arraycopy(source.places, place, target.places, at, many);
        return many;
    }

    public int lay(int slot, int thing, int k) {
        if (!within(slot, SLOTS) || !within(thing, THINGS)) {
            return BAD;
        }
        if (thing == HOLDS_ONE && !now.has(k) || thing == HOLDS_SHEET && !within(k, SHEETS)) {
            return BAD;
        }
        if (thing == HOLDS_SHEET && sheets[k].sort == MISSING) {
            return NOTHING;
        }
        Slot into = slots[slot];
        int was = into.thing;
        into.thing = thing;
        if (thing == HOLDS_ONE) {
            into.one.becomes(now.people[k]);
        } else if (thing == HOLDS_SHEET) {
            into.row.becomes(sheets[k]);
        } else if (thing == HOLDS_NUMBER) {
            into.number = k;
        }
        return was;
    }

    public int ask(int slot, int kind) {
        if (!within(slot, SLOTS) || !within(kind, KINDS)) {
            return BAD;
        }
        Slot asked = slots[slot];
        if (asked.thing == HOLDS_NOTHING) {
            return NOTHING;
        }
        if (asked.thing != HOLDS_ONE || !asked.one.isOf(kind)) {
            return KIND;
        }
        return asked.one.worth();
    }

    public int item(int slot, int place) {
        if (!within(slot, SLOTS)) {
            return BAD;
        }
        Slot asked = slots[slot];
        if (asked.thing == HOLDS_NOTHING) {
            return NOTHING;
        }
        if (asked.thing != HOLDS_SHEET) {
            return KIND;
        }
        if (!within(place, asked.row.size)) {
            return INDEX;
        }
        return asked.row.isNumber(place) ? asked.row.places[place] : KIND;
    }

    public int remains(int slot, int n) {
        if (!within(slot, SLOTS)) {
            return BAD;
        }
        Slot asked = slots[slot];
        if (asked.thing == HOLDS_NOTHING) {
            return NOTHING;
        }
        if (asked.thing != HOLDS_NUMBER) {
            return KIND;
        }
        return n == 0 ? NO : asked.number % n;
    }

    // ---- rows, images

    public int tell(int v) {
        if (waits >= MOST_WAITING) {
            return FULL;
        }
        waiting[waits] = v;
        waits++;
        return waits;
    }

    public int check(int n) {
        int many = waits;
        waits = 0;
        if (n < 1 || n > FARTHEST_TOLD) {
            return BAD;
        }
        return imageKept ? firstNotTold(many, image.upToTheLast(n)) : NO;
    }

    public int keep() {
        image.becomes(now);
        imageKept = true;
        return now.size;
    }

    public int back() {
        if (!imageKept) {
            return NO;
        }
        now.becomes(image);
        return now.size;
    }

    public int count(int what) {
        switch (what) {
            case 0: return now.size;
            case 1: return now.bars;
            case 2: return now.second;
            case 3: return now.allCoughs();
            case 4: return now.harm;
            case 5: return now.dry;
            case 6: return now.near;
            case 7: return now.texts;
            case 8: return waits;
            case 9: return tapeLength;
            case 10: return now.z;
            default: return BAD;
        }
    }

    // ---- helpers of the calls

    private static boolean within(int v, int many) {
        return v >= 0 && v < many;
    }

    private static int held(int v, int most) {
        return Math.max(0, Math.min(v, most));
    }

    /** In how many SECONDS a row tells p otherwise than it would be, were it of a KIND. */
    private int secondsOtherwise(Row row, int p, int kind) {
        thought.becomes(now);
        thought.people[p].kind = kind;
        int others = 0;
        for (int k = 0; k < row.size; k++) {
            thought.passSecond();
            boolean toldSo = row.places[k] != 0;
            if (row.isNumber(k) && toldSo != thought.hasCoughed(p)) {
                others++;
            }
        }
        return others;
    }

    private void putBytes(int v) {
        for (int shift = 24; shift >= 0 && tapeLength < TAPE_BYTES; shift -= 8) {
            tape[tapeLength] = (byte) (v >>> shift);
            tapeLength++;
        }
    }

    /** 0, if the first so many numbers that waited are THE SECONDS TOLD; else 1 and how many of them are right. */
    private int firstNotTold(int many, int seconds) {
        thought.becomes(image);
        for (int k = 0; k < seconds; k++) {
            int coughs = thought.passSecond();
            if (!waitedAt(2 * k, many, coughs)) {
                return 1 + 2 * k;
            }
            if (!waitedAt(2 * k + 1, many, thought.harm)) {
                return 2 + 2 * k;
            }
        }
        return many > 2 * seconds ? 1 + 2 * seconds : 0;
    }

    private boolean waitedAt(int k, int many, int due) {
        return k < many && k < MOST_WAITING && waiting[k] == due;
    }

    /** One of PEOPLE. */
    private static final class Person {
        int kind;
        int seat;
        int age;
        int itch;
        int sweet;
        int coughs;

        void becomes(Person other) {
            kind = other.kind;
            seat = other.seat;
            age = other.age;
            itch = other.itch;
            sweet = other.sweet;
            coughs = other.coughs;
        }

        void comesNew(int itsKind, int itsSeat, int itsAge) {
            kind = itsKind;
            seat = itsSeat;
            age = itsAge;
            itch = 0;
            sweet = 0;
            coughs = 0;
        }

        int changeAge(int v) {
            int was = age;
            age = v;
            return was;
        }

        int changeItch(int v) {
            int was = itch;
            itch = v;
            return was;
        }

        int changeSweet(int v) {
            int was = sweet;
            sweet = v;
            return was;
        }

        /** Whether it is of a KIND, or of one under it. */
        boolean isOf(int other) {
            int k = kind;
            for (int step = 0; step < KINDS && k >= 0 && k < KINDS; step++) {
                if (k == other) {
                    return true;
                }
                k = ABOVE[k];
            }
            return false;
        }

        int worth() {
            switch (kind) {
                case KEEPER: return age + 4;
                case FOLLOWER: return 2 * (age + 4);
                case COVERED: return 100 - age;
                case BORED: return 100 - age - 6;
                case SIGN: return seat;
                default: return age;
            }
        }
    }

    /** All that AN IMAGE keeps, and how its SECONDS pass. */
    private static final class Hall {
        final Person[] people = new Person[MOST_PEOPLE];
        final int[] loud = new int[MOST_BARS];
        final Text[] laws = new Text[MOST_TEXTS];
        /** By KEYS: the TEXT that counts, or -1. */
        final int[] counting = {-1, -1, -1};
        int size;
        int bars = 4;
        int texts;
        int dry = 30;
        int near = 3;
        int second;
        int harm;
        int did;
        int z = 1;

        Hall() {
            for (int p = 0; p < MOST_PEOPLE; p++) {
                people[p] = new Person();
            }
        }

        void becomes(Hall other) {
            for (int p = 0; p < other.size; p++) {
                people[p].becomes(other.people[p]);
            }
            for (int k = 0; k < other.bars; k++) {
                loud[k] = other.loud[k];
            }
            for (int k = 0; k < other.texts; k++) {
                laws[k] = other.laws[k];
            }
            for (int key = 0; key < KEYS; key++) {
                counting[key] = other.counting[key];
            }
            size = other.size;
            bars = other.bars;
            texts = other.texts;
            dry = other.dry;
            near = other.near;
            second = other.second;
            harm = other.harm;
            did = other.did;
            z = other.z;
        }

        boolean has(int p) {
            return within(p, size);
        }

        /** Who is on a SEAT, or -1. */
        int whoSits(int seat) {
            for (int p = 0; p < size; p++) {
                if (people[p].seat == seat) {
                    return p;
                }
            }
            return -1;
        }

        /** The number of one that comes; there is room for it. */
        int comes(int kind, int seat, int age) {
            people[size].comesNew(kind, seat, age);
            size++;
            return size - 1;
        }

        void comesByLot() {
            int kind = draw() % KINDS;
            int age = draw() % AGES;
            int seat = freeSeatFrom(draw() % SEATS);
            comes(kind, seat, age);
        }

        private int draw() {
            z = z * 1103515245 + 12345;
            return z >>> 8;
        }

        private int freeSeatFrom(int seat) {
            for (int k = 0; k < SEATS; k++) {
                int candidate = (seat + k) % SEATS;
                if (whoSits(candidate) < 0) {
                    return candidate;
                }
            }
            return seat;
        }

        void swapSeats(int p, int q) {
            int seat = people[p].seat;
            people[p].seat = people[q].seat;
            people[q].seat = seat;
        }

        /** LOUD so many seconds from now on. */
        int loudIn(int seconds) {
            return bars < 1 ? 0 : loud[(second + seconds) % bars];
        }

        int upToTheLast(int seconds) {
            return Math.min(seconds, LAST_SECOND - second);
        }

        boolean hasCoughed(int p) {
            return (did >>> p & 1) == 1;
        }

        int allCoughs() {
            int all = 0;
            for (int p = 0; p < size; p++) {
                all += people[p].coughs;
            }
            return all;
        }

        int greatestItch() {
            int greatest = 0;
            for (int p = 0; p < size; p++) {
                greatest = Math.max(greatest, people[p].itch);
            }
            return greatest;
        }

        int takesText(Text law) {
            laws[texts] = law;
            counting[law.key] = texts;
            texts++;
            return texts - 1;
        }

        /** The TEXT with a number, or null. */
        Text lawAt(int k) {
            return within(k, texts) ? laws[k] : null;
        }

        int grows(Person one) {
            if (one.sweet > 0) {
                return 0;
            }
            Text law = lawAt(counting[ITCH_KEY]);
            return law == null ? 1 + one.age / 20 + dry / 10 : held(law.gives(one.age, dry, one.itch), MOST_GROWS);
        }

        private int harmOf(int coughs, int loudNow) {
            Text law = lawAt(counting[HARM_KEY]);
            return law == null ? coughs * Math.max(0, 60 - loudNow) : held(law.gives(coughs, loudNow, 0), MOST_HARM_AT_ONCE);
        }

        int fineOf(Person one) {
            Text law = lawAt(counting[FINE_KEY]);
            return law == null ? one.coughs : law.gives(one.coughs, harm, 0);
        }

        boolean letsGo(int p, int loudNow) {
            Person one = people[p];
            boolean itches = one.itch >= 100;
            boolean bursts = one.itch >= 200;
            switch (one.kind) {
                case KEEPER: return itches && loudNow == 0 || bursts;
                case FOLLOWER: return itches && loudNow == 0 || bursts || one.itch >= 50 && oneNearDid(p);
                case COVERED: return itches && loudNow >= 50 || bursts;
                case BORED: return itches && loudNow >= 50 || bursts || second % 60 == one.age % 60 && one.itch > 0;
                case SIGN: return second % 30 == one.seat;
                default: return itches;
            }
        }

        private boolean oneNearDid(int p) {
            for (int q = 0; q < size; q++) {
                if (q != p && hasCoughed(q) && Math.abs(people[q].seat - people[p].seat) <= near) {
                    return true;
                }
            }
            return false;
        }

        /** So many SECONDS: how many coughs there were in them. */
        int passSeconds(int seconds) {
            int coughs = 0;
            for (int k = 0; k < seconds; k++) {
                coughs += passSecond();
            }
            return coughs;
        }

        /** A SECOND: how many cough in it. */
        int passSecond() {
            int loudNow = loudIn(0);
            throatsGrow();
            int who = whoLetsGo(loudNow);
            int coughs = Integer.bitCount(who);
            if (coughs > 0) {
                theyCough(who);
                harm += harmOf(coughs, loudNow);
            }
            second++;
            did = who;
            return coughs;
        }

        private void throatsGrow() {
            for (int p = 0; p < size; p++) {
                Person one = people[p];
                one.itch = Math.min(ITCHES - 1, one.itch + grows(one));
                if (one.sweet > 0) {
                    one.sweet--;
                }
            }
        }

        private int whoLetsGo(int loudNow) {
            int who = 0;
            for (int p = 0; p < size; p++) {
                if (letsGo(p, loudNow)) {
                    who |= 1 << p;
                }
            }
            return who;
        }

        private void theyCough(int who) {
            for (int p = 0; p < size; p++) {
                if ((who >>> p & 1) == 1) {
                    people[p].itch = 0;
                    people[p].coughs++;
                }
            }
        }
    }

    /** A law: its E with every sign behind what it joins, so that it is worked out in one pass. */
    private static final class Text {
        /** In the code a NUMBER stands for itself, a NAME from NAME_BASE on, a sign from SIGN_BASE on. */
        static final int NAME_BASE = 10000, SIGN_BASE = 20000;

        final int key;
        final int leaves;
        private final int[] code;
        private final int[] stack;

        Text(int itsKey, int itsLeaves, int[] itsCode) {
            key = itsKey;
            leaves = itsLeaves;
            code = itsCode;
            stack = new int[Math.max(0, itsLeaves)];
        }

        /** What it gives, if its NAMES, in the document's order, are x, y, w. */
        int gives(int x, int y, int w) {
            int top = 0;
            for (int k = 0; k < code.length; k++) {
                int c = code[k];
                if (c < SIGN_BASE) {
                    if (top < stack.length) {
                        stack[top] = leaf(c, x, y, w);
                        top++;
                    }
                } else if (c == SIGN_BASE + '!') {
                    if (top >= 1) {
                        stack[top - 1] = stack[top - 1] == 0 ? 1 : 0;
                    }
                } else if (top >= 2) {
                    top--;
                    stack[top - 1] = joined(c - SIGN_BASE, stack[top - 1], stack[top]);
                }
            }
            return top > 0 ? stack[0] : 0;
        }

        private static int leaf(int c, int x, int y, int w) {
            switch (c) {
                case NAME_BASE: return x;
                case NAME_BASE + 1: return y;
                case NAME_BASE + 2: return w;
                default: return c;
            }
        }

        private static int joined(int sign, int a, int b) {
            switch (sign) {
                case '+': return a + b;
                case '-': return a - b;
                case '*': return a * b;
                case '/': return b == 0 ? 0 : a / b;
                case '<': return a < b ? 1 : 0;
                case '=': return a == b ? 1 : 0;
                case '>': return a > b ? 1 : 0;
                case '&': return a != 0 && b != 0 ? 1 : 0;
                default: return a != 0 || b != 0 ? 1 : 0;
            }
        }
    }

    /** Reads THE TAPE as a TEXT, a word or sign at a time. */
    private static final class Reader {
        private static final int LETTERS = 0, DIGITS = 1, OTHER = 2, END = 3, NOWHERE = 4;
        private static final int TEST_LEVEL = 2, TERM_LEVEL = 4;
        private static final int MOST_OPEN = 8, MOST_DIGITS = 4;

        /** The place of the FAULT, or -1. */
        int fault;
        private final int[] code = new int[TAPE_BYTES];
        private byte[] bytes = new byte[0];
        private int length;
        private int place;
        private int end;
        private int sort;
        private int key;
        private int written;
        private int leaves;

        /** The TEXT, or null, if there is a FAULT. */
        Text readTape(byte[] tapeBytes, int many) {
            bytes = tapeBytes;
            length = Math.min(many, tapeBytes.length);
            end = 0;
            sort = OTHER;
            fault = -1;
            written = 0;
            leaves = 0;
            goOn();
            takeKey();
            takeLevel(0, 0, 0);
            if (sort != END) {
                isFault();
            }
            return fault < 0 ? new Text(key, leaves, Arrays.copyOf(code, written)) : null;
        }

        private void isFault() {
            if (fault < 0) {
                fault = place;
            }
        }

        /** On to the next word or sign; one that can stand nowhere is of no sort that is ever taken. */
        private void goOn() {
            boolean wordAhead = sort == LETTERS || sort == DIGITS;
            int behind = end;
            place = end;
            while (place < length && bytes[place] == ' ') {
                place++;
            }
            end = place;
            sort = sortAt(place);
            if (sort == OTHER) {
                end++;
            } else if (sort != END) {
                while (end < length && sortAt(end) == sort) {
                    end++;
                }
                boolean needsBlank = wordAhead && place == behind;
                if (needsBlank || sort == DIGITS && end - place > MOST_DIGITS) {
                    sort = NOWHERE;
                }
            }
        }

        private int sortAt(int k) {
            if (k >= length) {
                return END;
            }
            byte b = bytes[k];
            if (b >= 'a' && b <= 'z') {
                return LETTERS;
            }
            return b >= '0' && b <= '9' ? DIGITS : OTHER;
        }

        private void takeKey() {
            if (isWord("itch")) {
                key = ITCH_KEY;
            } else if (isWord("harm")) {
                key = HARM_KEY;
            } else if (isWord("fine")) {
                key = FINE_KEY;
            } else {
                isFault();
                return;
            }
            goOn();
        }

        private boolean isWord(String word) {
            if (sort != LETTERS || end - place != word.length()) {
                return false;
            }
            for (int k = 0; k < word.length(); k++) {
                if (bytes[place + k] != word.charAt(k)) {
                    return false;
                }
            }
            return true;
        }

        /** OR, AND, TEST, SUM, TERM (level 0 .. 4), within so many open ( and !. */
        private void takeLevel(int level, int open, int nots) {
            takeBelow(level, open, nots);
            for (int k = 0; k < TAPE_BYTES && fault < 0 && levelAtHand() == level; k++) {
                int sign = bytes[place];
                goOn();
                takeBelow(level, open, nots);
                write(Text.SIGN_BASE + sign);
                if (level == TEST_LEVEL) {
                    return;
                }
            }
        }

        private void takeBelow(int level, int open, int nots) {
            if (fault >= 0) {
                return;
            }
            if (level >= TERM_LEVEL) {
                takePiece(open, nots);
            } else {
                takeLevel(level + 1, open, nots);
            }
        }

        /** The level that the sign at hand joins, or -1. */
        private int levelAtHand() {
            if (sort != OTHER) {
                return -1;
            }
            switch (bytes[place]) {
                case '|': return 0;
                case '&': return 1;
                case '<': case '=': case '>': return TEST_LEVEL;
                case '+': case '-': return 3;
                case '*': case '/': return TERM_LEVEL;
                default: return -1;
            }
        }

        private void takePiece(int open, int nots) {
            if (sort == DIGITS) {
                takeLeaf(numberAtHand());
            } else if (sort == LETTERS) {
                takeName();
            } else if (isSign('!') && nots < MOST_OPEN) {
                goOn();
                takePiece(open, nots + 1);
                write(Text.SIGN_BASE + '!');
            } else if (isSign('(') && open < MOST_OPEN) {
                goOn();
                takeLevel(0, open + 1, nots);
                takeClosing();
            } else {
                isFault();
            }
        }

        private boolean isSign(char sign) {
            return sort == OTHER && bytes[place] == sign;
        }

        private void takeClosing() {
            if (isSign(')')) {
                goOn();
            } else {
                isFault();
            }
        }

        private void takeName() {
            int k = end - place == 1 ? namesOfKey().indexOf((char) bytes[place]) : -1;
            if (k < 0) {
                isFault();
            } else {
                takeLeaf(Text.NAME_BASE + k);
            }
        }

        private String namesOfKey() {
            switch (key) {
                case ITCH_KEY: return "adi";
                case HARM_KEY: return "nl";
                default: return "ch";
            }
        }

        private int numberAtHand() {
            int number = 0;
            for (int k = place; k < end; k++) {
                number = 10 * number + bytes[k] - '0';
            }
            return number;
        }

        private void takeLeaf(int c) {
            leaves++;
            write(c);
            goOn();
        }

        private void write(int c) {
            if (written < TAPE_BYTES) {
                code[written] = c;
                written++;
            }
        }
    }

    /** A SHEET: a row of places, or MISSING. */
    private static final class Row {
        final int[] places = new int[PLACES];
        int sort = MISSING;
        int size;

        void becomes(Row other) {
            for (int k = 0; k < other.size; k++) {
                places[k] = other.places[k];
            }
            sort = other.sort;
            size = other.size;
        }

        void clears(int itsSort, int itsSize) {
            for (int k = 0; k < PLACES; k++) {
                places[k] = 0;
            }
            sort = itsSort;
            size = itsSize;
        }

        /** Shorts can't be as low as what stands for NO NUMBER, so it needs no look at the sort. */
        boolean isNumber(int place) {
            return places[place] != NO_NUMBER;
        }

        /** Whether so many places from one on are all there; the end itself may begin a stretch of none. */
        boolean hasStretch(int place, int many) {
            return many >= 0 && many <= size && place >= 0 && place <= size - many;
        }
    }

    /** What a SLOT holds: of one, row and number that which the thing tells. */
    private static final class Slot {
        int thing = HOLDS_NOTHING;
        final Person one = new Person();
        final Row row = new Row();
        int number;
    }
}
