import java.util.Arrays;

/**
 * A land of spots and bits of way, and a walker who learns it by walking.
 * The numbered promises that it keeps stand in ../shared/DOC.md.
 */
public final class ShortCut {
    public static final int BAD = -1000000001, NO = -1000000002, FULL = -1000000003, NONE = -1000000005, NOTHING = -1000000011, KIND = -1000000012, INDEX = -1000000013, SIZE = -1000000014;

    private static final int SPOTS = 8;
    private static final int MOST_BITS = 14;
    private static final int LONGEST = 99;
    private static final int MOST_MINUTES = 999;
    private static final int MOST_TRODDEN = 999;
    private static final int MOST_GUESS = 99;
    private static final int MOST_TRIES = 60;
    private static final int MOST_THOUGHT_WALKS = 40;
    private static final int MOST_TOLD_WALKS = 30;
    private static final int MOST_WAITING = 60;
    private static final int NO_WAY = 999;

    private static final int BIT = 0, TRACK = 1, WILD = 2, PATH = 3, STREAM = 4, ROAD = 5;
    private static final int KINDS = 6;
    private static final int[] ABOVE = {-1, BIT, BIT, TRACK, WILD, BIT};
    private static final int TRACK_ENDS = 90;

    private static final int AT_GOAL = 0, STUCK = 1, LOST = 2;

    private static final int TAKE = 0, THINK = 1, FINE = 2;
    private static final int KEYS = 3;
    private static final int MOST_TEXTS = 14;
    private static final int TAPE_BYTES = 96;
    private static final int FAULTY = -100;
    private static final int MOST_DIGITS = 4;
    private static final int MOST_OPEN = 8;

    /* Codes of a text: numbers stand for themselves, names and signs lie below 0. */
    private static final int FIRST_NAME = -1, SECOND_NAME = -2, THIRD_NAME = -3;
    private static final int SIGN_CODE = -1000;

    private static final int SHEETS = 4;
    private static final int PLACES = 24;
    private static final int MISSING = -1, SHORTS = 0, FLOATS = 1;
    private static final int MOST_FLOAT = 99999;

    private static final int SLOTS = 5;
    private static final int HOLDS_NOTHING = 0, HOLDS_BIT = 1, HOLDS_SHEET = 2, HOLDS_NUMBER = 3;

    private final Land land = new Land();
    private final Land image = new Land();
    private boolean kept = false;

    /* All that is only thought happens to this copy. */
    private final Land thought = new Land();
    private final Walk earlier = new Walk();
    private final Walker walker = new Walker();

    private final Reader reader = new Reader();
    private final Sheet[] sheets = new Sheet[SHEETS];
    private final Slot[] slots = new Slot[SLOTS];
    private final int[] waiting = new int[MOST_WAITING];
    private int waits = 0;

    public ShortCut() {
        for (int s = 0; s < SHEETS; s++) {
            sheets[s] = new Sheet();
        }
        for (int s = 0; s < SLOTS; s++) {
            slots[s] = new Slot();
        }
    }

    // ---- bits

    public int bit(int kind, int from, int to, int length) {
        if (!isKind(kind) || !areSpots(from, to) || from == to || !isWithin(length, 1, LONGEST)) {
            return BAD;
        }
        if (land.many >= MOST_BITS) {
            return FULL;
        }
        return land.add(kind, from, to, length);
    }

    public int told(int bit, int what) {
        if (!land.has(bit)) {
            return BAD;
        }
        Bit b = land.bits[bit];
        switch (what) {
            case 0: return b.kind;
            case 1: return b.one;
            case 2: return b.other;
            case 3: return b.length;
            case 4: return b.trodden;
            case 5: return b.said;
            case 6: return land.takes(b);
            case 7: return b.isBarred(land.wet) ? 1 : 0;
            case 8: return land.thinks(b);
            case 9: return b.worth();
            default: return BAD;
        }
    }

    public int as(int bit, int kind) {
        if (!land.has(bit) || !isKind(kind)) {
            return BAD;
        }
        return land.bits[bit].isOf(kind) ? land.bits[bit].length : KIND;
    }

    public int turns(int bit, int kind) {
        if (!land.has(bit) || !isKind(kind)) {
            return BAD;
        }
        int was = land.bits[bit].kind;
        land.bits[bit].kind = kind;
        return was;
    }

    public int set(int bit, int what, int v) {
        if (!land.has(bit)) {
            return BAD;
        }
        switch (what) {
            case 3: return setLength(land.bits[bit], v);
            case 4: return setTrodden(land.bits[bit], v);
            case 5: return setSaid(land.bits[bit], v);
            default: return BAD;
        }
    }

    private static int setLength(Bit b, int v) {
        if (!isWithin(v, 1, LONGEST)) {
            return BAD;
        }
        int was = b.length;
        b.length = v;
        return was;
    }

    private static int setTrodden(Bit b, int v) {
        if (!isWithin(v, 0, MOST_TRODDEN)) {
            return BAD;
        }
        int was = b.trodden;
        b.trodden = v;
        return was;
    }

    private static int setSaid(Bit b, int v) {
        if (v != NONE && !isWithin(v, 0, MOST_MINUTES)) {
            return BAD;
        }
        int was = b.said;
        b.said = v;
        return was;
    }

    public int rule(int what, int v) {
        if (what == 0 && isWithin(v, 0, 1)) {
            int was = land.wet;
            land.wet = v;
            return was;
        }
        if (what == 1 && isWithin(v, 1, MOST_GUESS)) {
            int was = land.guess;
            land.guess = v;
            return was;
        }
        return BAD;
    }

    public int deal(int n) {
        if (!isWithin(n, 1, MOST_BITS)) {
            return BAD;
        }
        int come = Math.min(n, MOST_BITS - land.many);
        for (int i = 0; i < come; i++) {
            land.addByLot();
        }
        return come;
    }

    public int seed(int v) {
        int was = land.lot;
        land.lot = v;
        return was;
    }

    // ---- walks

    public int walk(int from, int to) {
        if (!areSpots(from, to)) {
            return BAD;
        }
        return walker.go(land, from, to);
    }

    public int latest(int what) {
        if (!isWithin(what, 0, 3)) {
            return BAD;
        }
        Walk last = land.last;
        if (!last.been) {
            return NONE;
        }
        switch (what) {
            case 0: return last.minutes;
            case 1: return last.tries;
            case 2: return last.spot;
            default: return last.ending;
        }
    }

    public int tried(int i) {
        if (i < 0) {
            return BAD;
        }
        return land.last.bitOfTry(i);
    }

    public int hush() {
        int said = land.saidInAll();
        for (int i = 0; i < land.many; i++) {
            land.bits[i].said = NONE;
        }
        return said;
    }

    // ---- what will be

    public int best(int from, int to) {
        if (!areSpots(from, to)) {
            return BAD;
        }
        return walker.leastMinutes(land, from, to, NONE);
    }

    public int loses(int from, int to) {
        if (!areSpots(from, to)) {
            return BAD;
        }
        int least = walker.leastMinutes(land, from, to, NONE);
        if (least == NONE) {
            return NONE;
        }
        thought.takeFrom(land);
        return walker.go(thought, from, to) - least;
    }

    public int behind(int from, int to, int n) {
        if (!areSpots(from, to) || !isWithin(n, 0, MOST_THOUGHT_WALKS)) {
            return BAD;
        }
        thought.takeFrom(land);
        for (int i = 0; i < n; i++) {
            walker.go(thought, from, to);
        }
        return walker.go(thought, from, to);
    }

    public int same(int from, int to) {
        if (!areSpots(from, to)) {
            return BAD;
        }
        thought.takeFrom(land);
        walker.go(thought, from, to);
        for (int walks = 1; walks <= MOST_THOUGHT_WALKS; walks++) {
            earlier.takeFrom(thought.last);
            walker.go(thought, from, to);
            if (thought.last.isLike(earlier)) {
                return walks;
            }
        }
        return NONE;
    }

    public int look(int from, int to, int what) {
        if (!areSpots(from, to) || !isWithin(what, 0, 1)) {
            return BAD;
        }
        int bit = NONE;
        int least = NONE;
        for (int i = 0; i < land.many; i++) {
            int minutes = minutesIfLookedAt(i, from, to);
            if (bit == NONE || minutes < least) {
                bit = i;
                least = minutes;
            }
        }
        return what == 0 ? bit : least;
    }

    private int minutesIfLookedAt(int bit, int from, int to) {
        thought.takeFrom(land);
        Bit b = thought.bits[bit];
        b.said = Math.min(thought.takes(b), MOST_MINUTES);
        return walker.go(thought, from, to);
    }

    public int wanted(int from, int to) {
        if (!areSpots(from, to)) {
            return BAD;
        }
        int bit = NONE;
        int most = 0;
        for (int i = 0; i < land.many; i++) {
            int least = walker.leastMinutes(land, from, to, i);
            int minutes = least == NONE ? NO_WAY : least;
            if (bit == NONE || minutes > most) {
                bit = i;
                most = minutes;
            }
        }
        return bit;
    }

    public int reach(int from, int m) {
        if (!isSpot(from) || !isWithin(m, 0, MOST_MINUTES)) {
            return BAD;
        }
        return walker.spotsWithin(land, from, m);
    }

    public int ever(int from, int to, int n) {
        if (!areSpots(from, to) || !isWithin(n, 1, MOST_THOUGHT_WALKS)) {
            return BAD;
        }
        thought.takeFrom(land);
        int bits = 0;
        for (int i = 0; i < n; i++) {
            walker.go(thought, from, to);
            bits |= thought.last.bitsTried();
        }
        return bits;
    }

    public int wrong(int sheet) {
        if (!isSheet(sheet)) {
            return BAD;
        }
        Sheet s = sheets[sheet];
        if (s.isMissing()) {
            return NOTHING;
        }
        int together = 0;
        for (int i = 0; i < s.size; i++) {
            if (s.places[i] != NONE) {
                int minutes = land.has(i) ? land.takes(land.bits[i]) : 0;
                together += Math.abs(s.places[i] - minutes);
            }
        }
        return together;
    }

    public int fine() {
        Text t = land.textFor(FINE);
        return t == null ? land.spent : t.value(land.spent, land.walks, 0);
    }

    // ---- texts

    public int feed(int a, int b, int c) {
        Tape tape = reader.tape;
        if (tape.room() < 12) {
            return FULL;
        }
        tape.addFour(a);
        tape.addFour(b);
        tape.addFour(c);
        return tape.size;
    }

    public int trim(int n) {
        if (!isWithin(n, 0, reader.tape.size)) {
            return BAD;
        }
        reader.tape.size = n;
        return n;
    }

    public int text() {
        boolean whole = reader.readsWhole();
        reader.tape.size = 0;
        if (!whole) {
            return FAULTY - reader.start;
        }
        if (land.textCount >= MOST_TEXTS) {
            return FULL;
        }
        return land.addText(reader.made());
    }

    public int textTold(int text, int what) {
        Text t = land.textAt(text);
        if (t == null) {
            return BAD;
        }
        switch (what) {
            case 0: return t.key;
            case 1: return t.operands;
            default: return BAD;
        }
    }

    public int why(int key) {
        return isWithin(key, 0, KEYS - 1) ? land.ruling[key] : BAD;
    }

    // ---- sheets, slots

    public int sheet(int sheet, int sort, int n) {
        if (!isSheet(sheet) || !isWithin(sort, MISSING, FLOATS)) {
            return BAD;
        }
        if (sort == MISSING) {
            sheets[sheet].become(MISSING, 0);
            return 0;
        }
        if (n > PLACES) {
            return BAD;
        }
        if (n < 0) {
            return SIZE;
        }
        sheets[sheet].become(sort, n);
        return n;
    }

    public int mark(int sheet, int place, int v) {
        if (!isSheet(sheet)) {
            return BAD;
        }
        Sheet s = sheets[sheet];
        if (s.isMissing()) {
            return NOTHING;
        }
        if (!s.has(place)) {
            return INDEX;
        }
        if (s.sort == SHORTS) {
            if (v == NONE) {
                return KIND;
            }
            s.places[place] = (short) v;
            return 1;
        }
        if (v != NONE && !isWithin(v, -MOST_FLOAT, MOST_FLOAT)) {
            return BAD;
        }
        s.places[place] = v;
        return 1;
    }

    public int pour(int sheet) {
        if (!isSheet(sheet)) {
            return BAD;
        }
        Sheet s = sheets[sheet];
        if (s.isMissing()) {
            return NOTHING;
        }
        int otherwise = 0;
        for (int i = 0; i < s.size && i < land.many; i++) {
            if (s.places[i] != NONE) {
                int said = heldWithin(s.places[i], 0, MOST_MINUTES);
                otherwise += said != land.bits[i].said ? 1 : 0;
                land.bits[i].said = said;
            }
        }
        return otherwise;
    }

    public int reads(int sheet) {
        if (!isSheet(sheet)) {
            return BAD;
        }
        Sheet s = sheets[sheet];
        if (s.isMissing()) {
            return NOTHING;
        }
        for (int i = 0; i < s.size; i++) {
            if (s.places[i] != NONE && s.places[i] != land.last.bitOfTry(i)) {
                return i;
            }
        }
        return NONE;
    }

    public int copy(int from, int place, int to, int at, int many) {
        if (!isSheet(from) || !isSheet(to)) {
            return BAD;
        }
        Sheet source = sheets[from];
        Sheet goal = sheets[to];
        if (source.isMissing() || goal.isMissing()) {
            return NOTHING;
        }
        if (source.sort != goal.sort) {
            return KIND;
        }
        if (!source.hasRow(place, many) || !goal.hasRow(at, many)) {
            return INDEX;
        }
        System.arraycopy(source.places, place, goal.places, at, many);
        return many;
    }

    public int lay(int slot, int thing, int k) {
        if (!isSlot(slot) || !isWithin(thing, HOLDS_NOTHING, HOLDS_NUMBER)) {
            return BAD;
        }
        if (thing == HOLDS_BIT && !land.has(k) || thing == HOLDS_SHEET && !isSheet(k)) {
            return BAD;
        }
        if (thing == HOLDS_SHEET && sheets[k].isMissing()) {
            return NOTHING;
        }
        Slot s = slots[slot];
        int held = s.holds;
        s.holds = thing;
        if (thing == HOLDS_BIT) {
            s.bit.takeFrom(land.bits[k]);
        } else if (thing == HOLDS_SHEET) {
            s.row.takeFrom(sheets[k]);
        } else if (thing == HOLDS_NUMBER) {
            s.number = k;
        }
        return held;
    }

    public int ask(int slot, int kind) {
        if (!isSlot(slot) || !isKind(kind)) {
            return BAD;
        }
        Slot s = slots[slot];
        if (s.holds == HOLDS_NOTHING) {
            return NOTHING;
        }
        return s.holds == HOLDS_BIT && s.bit.isOf(kind) ? s.bit.worth() : KIND;
    }

    public int item(int slot, int place) {
        if (!isSlot(slot)) {
            return BAD;
        }
        Slot s = slots[slot];
        if (s.holds == HOLDS_NOTHING) {
            return NOTHING;
        }
        if (s.holds != HOLDS_SHEET) {
            return KIND;
        }
        if (!s.row.has(place)) {
            return INDEX;
        }
        int v = s.row.places[place];
        return v == NONE ? KIND : v;
    }

    public int rest(int slot, int n) {
        if (!isSlot(slot)) {
            return BAD;
        }
        Slot s = slots[slot];
        if (s.holds == HOLDS_NOTHING) {
            return NOTHING;
        }
        if (s.holds != HOLDS_NUMBER) {
            return KIND;
        }
        return n == 0 ? NO : s.number % n;
    }

    // ---- rows, images

    public int tell(int v) {
        if (waits >= MOST_WAITING) {
            return FULL;
        }
        waiting[waits] = v;
        waits++;
        return waits;
    }

    public int check(int from, int to, int n) {
        int due = waits;
        waits = 0;
        if (!areSpots(from, to) || !isWithin(n, 1, MOST_TOLD_WALKS)) {
            return BAD;
        }
        if (!kept) {
            return NO;
        }
        thought.takeFrom(image);
        int right = 0;
        for (int i = 0; i < n; i++) {
            int minutes = walker.go(thought, from, to);
            if (right >= due || waiting[right] != minutes) {
                return 1 + right;
            }
            right++;
            if (right >= due || waiting[right] != thought.troddenInAll()) {
                return 1 + right;
            }
            right++;
        }
        return right == due ? 0 : 1 + right;
    }

    public int keep() {
        image.takeFrom(land);
        kept = true;
        return image.many;
    }

    public int back() {
        if (!kept) {
            return NO;
        }
        land.takeFrom(image);
        return land.many;
    }

    public int count(int what) {
        switch (what) {
            case 0: return land.many;
            case 1: return land.walks;
            case 2: return land.spent;
            case 3: return land.wet;
            case 4: return land.guess;
            case 5: return land.troddenInAll();
            case 6: return land.saidInAll();
            case 7: return land.textCount;
            case 8: return waits;
            case 9: return reader.tape.size;
            case 10: return land.lot;
            default: return BAD;
        }
    }

    private static boolean isWithin(int v, int least, int most) {
        return v >= least && v <= most;
    }

    private static int heldWithin(int v, int least, int most) {
        return Math.max(least, Math.min(v, most));
    }

    private static boolean isSpot(int spot) {
        return isWithin(spot, 0, SPOTS - 1);
    }

    private static boolean areSpots(int from, int to) {
        return isSpot(from) && isSpot(to);
    }

    private static boolean isKind(int kind) {
        return isWithin(kind, 0, KINDS - 1);
    }

    private static boolean isSheet(int sheet) {
        return isWithin(sheet, 0, SHEETS - 1);
    }

    private static boolean isSlot(int slot) {
        return isWithin(slot, 0, SLOTS - 1);
    }

    /** A bit of way; said is NONE while nothing was said of it. */
    private static final class Bit {
        int kind = BIT;
        int one = 0;
        int other = 0;
        int length = 0;
        int trodden = 0;
        int said = NONE;

        void become(int newKind, int from, int to, int newLength) {
            kind = newKind;
            one = from;
            other = to;
            length = newLength;
            trodden = 0;
            said = NONE;
        }

        void takeFrom(Bit b) {
            kind = b.kind;
            one = b.one;
            other = b.other;
            length = b.length;
            trodden = b.trodden;
            said = b.said;
        }

        boolean isOf(int wantedKind) {
            int k = kind;
            for (int up = 0; up < KINDS && k >= 0 && k < KINDS; up++) {
                if (k == wantedKind) {
                    return true;
                }
                k = ABOVE[k];
            }
            return false;
        }

        boolean touches(int spot) {
            return one == spot || other == spot;
        }

        int endFrom(int spot) {
            return one == spot ? other : one;
        }

        boolean isBarred(int wet) {
            if (isOf(TRACK)) {
                return length > TRACK_ENDS;
            }
            return kind == STREAM && wet == 1;
        }

        /** asBit: the minutes that any bit of no nearer kind would take. */
        int takes(int asBit, int wet) {
            switch (kind) {
                case TRACK: return takesAsTrack(asBit);
                case PATH: return Math.max(1, takesAsTrack(asBit) / 2);
                case WILD:
                case STREAM: return wet == 1 ? 2 * asBit : asBit;
                case ROAD: return length;
                default: return asBit;
            }
        }

        private int takesAsTrack(int asBit) {
            return Math.max(1, asBit - trodden);
        }

        int worth() {
            switch (kind) {
                case TRACK: return worthAsTrack();
                case PATH: return 2 * worthAsTrack();
                case WILD: return worthAsWild();
                case STREAM: return worthAsWild() - 6;
                case ROAD: return 60;
                default: return length;
            }
        }

        private int worthAsTrack() {
            return length + 4;
        }

        private int worthAsWild() {
            return 99 - length;
        }
    }

    /** All that an image keeps. */
    private static final class Land {
        final Bit[] bits = new Bit[MOST_BITS];
        int many = 0;
        int wet = 0;
        int guess = 20;
        int walks = 0;
        int spent = 0;
        int lot = 1;
        final Text[] texts = new Text[MOST_TEXTS];
        int textCount = 0;
        final int[] ruling = {NONE, NONE, NONE};
        final Walk last = new Walk();

        Land() {
            for (int i = 0; i < MOST_BITS; i++) {
                bits[i] = new Bit();
            }
        }

        void takeFrom(Land l) {
            many = l.many;
            for (int i = 0; i < many; i++) {
                bits[i].takeFrom(l.bits[i]);
            }
            wet = l.wet;
            guess = l.guess;
            walks = l.walks;
            spent = l.spent;
            lot = l.lot;
            textCount = l.textCount;
            for (int i = 0; i < textCount; i++) {
                texts[i] = l.texts[i];
            }
            System.arraycopy(l.ruling, 0, ruling, 0, KEYS);
            last.takeFrom(l.last);
        }

        boolean has(int bit) {
            return isWithin(bit, 0, many - 1);
        }

        int add(int kind, int from, int to, int length) {
            if (many >= MOST_BITS) {
                return FULL;
            }
            bits[many].become(kind, from, to, length);
            many++;
            return many - 1;
        }

        void addByLot() {
            int kind = draw() % KINDS;
            int from = draw() % SPOTS;
            int to = (from + 1 + draw() % (SPOTS - 1)) % SPOTS;
            int length = 1 + draw() % 40;
            add(kind, from, to, length);
        }

        private int draw() {
            lot = lot * 1103515245 + 12345;
            return lot >>> 8;
        }

        int addText(Text t) {
            if (textCount >= MOST_TEXTS) {
                return FULL;
            }
            texts[textCount] = t;
            ruling[t.key] = textCount;
            textCount++;
            return textCount - 1;
        }

        /** null, if there is no such text. */
        Text textAt(int number) {
            return isWithin(number, 0, textCount - 1) ? texts[number] : null;
        }

        /** The one that counts for a key, or null. */
        Text textFor(int key) {
            return textAt(ruling[key]);
        }

        int takes(Bit b) {
            Text t = textFor(TAKE);
            if (t == null) {
                return b.takes(b.length, wet);
            }
            return b.takes(heldWithin(t.value(b.length, wet, b.trodden), 1, MOST_MINUTES), wet);
        }

        int thinks(Bit b) {
            Text t = textFor(THINK);
            if (t == null) {
                return b.said == NONE ? guess : Math.max(1, b.said);
            }
            int said = b.said == NONE ? 0 : b.said;
            return heldWithin(t.value(said, guess, b.kind), 1, MOST_MINUTES);
        }

        int troddenInAll() {
            int together = 0;
            for (int i = 0; i < many; i++) {
                together += bits[i].trodden;
            }
            return together;
        }

        int saidInAll() {
            int together = 0;
            for (int i = 0; i < many; i++) {
                together += bits[i].said != NONE ? 1 : 0;
            }
            return together;
        }
    }

    /** What there is to tell of one walk. */
    private static final class Walk {
        boolean been = false;
        int minutes = 0;
        int tries = 0;
        int spot = 0;
        int ending = AT_GOAL;
        final int[] bits = new int[MOST_TRIES];

        void start(int from) {
            been = true;
            minutes = 0;
            tries = 0;
            spot = from;
            ending = LOST;
        }

        void takeFrom(Walk w) {
            been = w.been;
            minutes = w.minutes;
            tries = w.tries;
            spot = w.spot;
            ending = w.ending;
            System.arraycopy(w.bits, 0, bits, 0, w.tries);
        }

        void addTry(int bit, int took, int end) {
            if (tries < MOST_TRIES) {
                bits[tries] = bit;
                tries++;
                minutes += took;
                spot = end;
            }
        }

        int bitOfTry(int i) {
            return isWithin(i, 0, tries - 1) ? bits[i] : NONE;
        }

        int bitsTried() {
            int all = 0;
            for (int i = 0; i < tries; i++) {
                all |= 1 << bits[i];
            }
            return all;
        }

        boolean isLike(Walk w) {
            if (minutes != w.minutes || tries != w.tries) {
                return false;
            }
            for (int i = 0; i < tries; i++) {
                if (bits[i] != w.bits[i]) {
                    return false;
                }
            }
            return true;
        }
    }

    /** Finds least ways and goes them. */
    private static final class Walker {
        private static final int SHUT = 0;
        private static final int FAR = 1000000;

        private final int[] cost = new int[MOST_BITS];
        private final int[] left = new int[SPOTS];

        /** One walk that changes the land; its minutes. */
        int go(Land land, int from, int to) {
            Walk walk = land.last;
            walk.start(from);
            weighByThought(land);
            boolean stale = true;
            for (int step = 0; step <= MOST_TRIES; step++) {
                if (walk.spot == to) {
                    walk.ending = AT_GOAL;
                    break;
                }
                // The ways from before still hold unless the last try told something new.
                if (stale) {
                    measure(land, to);
                }
                int bit = firstBit(land, walk.spot);
                if (bit == NONE) {
                    walk.ending = STUCK;
                    break;
                }
                if (walk.tries >= MOST_TRIES) {
                    break;
                }
                stale = triesBit(land, bit);
            }
            land.walks++;
            land.spent += walk.minutes;
            return walk.minutes;
        }

        /** Whether the walker thinks otherwise of the bit behind the try. */
        private boolean triesBit(Land land, int bit) {
            Bit b = land.bits[bit];
            Walk walk = land.last;
            if (b.isBarred(land.wet)) {
                walk.addTry(bit, 1, walk.spot);
                cost[bit] = SHUT;
                return true;
            }
            int minutes = land.takes(b);
            walk.addTry(bit, minutes, b.endFrom(walk.spot));
            b.said = Math.min(minutes, MOST_MINUTES);
            b.trodden = Math.min(b.trodden + 1, MOST_TRODDEN);
            int thoughtBefore = cost[bit];
            cost[bit] = land.thinks(b);
            return cost[bit] != thoughtBefore;
        }

        /** The least bit that begins a least way, NONE if there is no way. */
        private int firstBit(Land land, int spot) {
            if (left[spot] >= FAR) {
                return NONE;
            }
            for (int i = 0; i < land.many; i++) {
                Bit b = land.bits[i];
                if (cost[i] != SHUT && b.touches(spot) && left[b.endFrom(spot)] + cost[i] == left[spot]) {
                    return i;
                }
            }
            return NONE;
        }

        int leastMinutes(Land land, int from, int to, int without) {
            weighByMinutes(land, without);
            measure(land, to);
            return left[from] >= FAR ? NONE : left[from];
        }

        int spotsWithin(Land land, int from, int minutes) {
            weighByMinutes(land, NONE);
            measure(land, from);
            int all = 0;
            for (int s = 0; s < SPOTS; s++) {
                if (left[s] <= minutes) {
                    all |= 1 << s;
                }
            }
            return all;
        }

        private void weighByThought(Land land) {
            for (int i = 0; i < land.many; i++) {
                cost[i] = land.thinks(land.bits[i]);
            }
        }

        private void weighByMinutes(Land land, int without) {
            for (int i = 0; i < land.many; i++) {
                Bit b = land.bits[i];
                cost[i] = i == without || b.isBarred(land.wet) ? SHUT : land.takes(b);
            }
        }

        /** Fills left with the least cost between each spot and the goal. */
        private void measure(Land land, int goal) {
            Arrays.fill(left, FAR);
            left[goal] = 0;
            boolean shorter = true;
            for (int round = 0; round < SPOTS && shorter; round++) {
                shorter = false;
                for (int i = 0; i < land.many; i++) {
                    if (cost[i] != SHUT) {
                        Bit b = land.bits[i];
                        shorter |= shortens(b.one, b.other, cost[i]);
                        shorter |= shortens(b.other, b.one, cost[i]);
                    }
                }
            }
        }

        private boolean shortens(int near, int far, int by) {
            int through = left[near] + by;
            if (through >= left[far]) {
                return false;
            }
            left[far] = through;
            return true;
        }
    }

    private static final class Tape {
        final int[] bytes = new int[TAPE_BYTES];
        int size = 0;

        int room() {
            return TAPE_BYTES - size;
        }

        void addFour(int v) {
            for (int shift = 24; shift >= 0 && size < TAPE_BYTES; shift -= 8) {
                bytes[size] = v >>> shift & 255;
                size++;
            }
        }
    }

    /** A law, its signs behind what they work on, so that it needs no tree. */
    private static final class Text {
        final int key;
        final int operands;
        private final int[] codes;
        private final int[] stack;

        Text(int key, int operands, int[] codes) {
            this.key = key;
            this.operands = operands;
            this.codes = codes;
            this.stack = new int[Math.max(1, operands)];
        }

        /** What it gives for its key's names, in the order of their list. */
        int value(int first, int second, int third) {
            int top = -1;
            for (int i = 0; i < codes.length; i++) {
                int code = codes[i];
                if (code > SIGN_CODE) {
                    if (top + 1 < stack.length) {
                        top++;
                        stack[top] = operand(code, first, second, third);
                    }
                } else if (SIGN_CODE - code == '!') {
                    if (top >= 0) {
                        stack[top] = stack[top] == 0 ? 1 : 0;
                    }
                } else if (top >= 1) {
                    top--;
                    stack[top] = joined(SIGN_CODE - code, stack[top], stack[top + 1]);
                }
            }
            return stack[0];
        }

        private static int operand(int code, int first, int second, int third) {
            switch (code) {
                case FIRST_NAME: return first;
                case SECOND_NAME: return second;
                case THIRD_NAME: return third;
                default: return code;
            }
        }

        private static int joined(int sign, int a, int b) {
            switch (sign) {
                case '|': return a != 0 || b != 0 ? 1 : 0;
                case '&': return a != 0 && b != 0 ? 1 : 0;
                case '<': return a < b ? 1 : 0;
                case '=': return a == b ? 1 : 0;
                case '>': return a > b ? 1 : 0;
                case '+': return a + b;
                case '-': return a - b;
                case '*': return a * b;
                case '/': return b == 0 ? 0 : a / b;
                default: return 0;
            }
        }
    }

    /** Reads its tape as a text; when it can't, start is the place of the fault. */
    private static final class Reader {
        private static final int END = 0, LETTERS = 1, DIGITS = 2, SIGN = 3, GLUED = 4;
        private static final int LOOSEST = 0, TEST = 2, PIECE = 5;

        final Tape tape = new Tape();
        int start = 0;
        private int end = 0;
        private int token = END;
        private int key = TAKE;
        private final int[] codes = new int[TAPE_BYTES];
        private int codeCount = 0;
        private int operands = 0;
        private int openBrackets = 0;
        private int openNots = 0;

        boolean readsWhole() {
            end = 0;
            token = END;
            codeCount = 0;
            operands = 0;
            openBrackets = 0;
            openNots = 0;
            next();
            return readsKey() && readsLevel(LOOSEST) && token == END;
        }

        Text made() {
            return new Text(key, operands, Arrays.copyOf(codes, codeCount));
        }

        private boolean readsKey() {
            if (isWord("take")) {
                key = TAKE;
            } else if (isWord("think")) {
                key = THINK;
            } else if (isWord("fine")) {
                key = FINE;
            } else {
                return false;
            }
            next();
            return true;
        }

        private boolean readsLevel(int level) {
            if (level >= PIECE) {
                return readsPiece();
            }
            if (!readsLevel(level + 1)) {
                return false;
            }
            int mostJoins = level == TEST ? 1 : TAPE_BYTES;
            for (int join = 0; join < mostJoins && isSignOf(signsOf(level)); join++) {
                int sign = tape.bytes[start];
                next();
                if (!readsLevel(level + 1)) {
                    return false;
                }
                addCode(SIGN_CODE - sign);
            }
            return true;
        }

        private boolean readsPiece() {
            if (token == DIGITS) {
                return readsNumber();
            }
            if (token == LETTERS) {
                return readsName();
            }
            if (isSignOf("!")) {
                return readsNot();
            }
            return isSignOf("(") && readsBrackets();
        }

        private boolean readsNumber() {
            if (end - start > MOST_DIGITS) {
                return false;
            }
            int number = 0;
            for (int i = start; i < end; i++) {
                number = number * 10 + tape.bytes[i] - '0';
            }
            addOperand(number);
            next();
            return true;
        }

        private boolean readsName() {
            if (end - start != 1) {
                return false;
            }
            int name = namesOf(key).indexOf((char) tape.bytes[start]);
            if (name < 0) {
                return false;
            }
            addOperand(FIRST_NAME - name);
            next();
            return true;
        }

        private boolean readsNot() {
            if (openNots >= MOST_OPEN) {
                return false;
            }
            openNots++;
            next();
            if (!readsPiece()) {
                return false;
            }
            openNots--;
            addCode(SIGN_CODE - '!');
            return true;
        }

        private boolean readsBrackets() {
            if (openBrackets >= MOST_OPEN) {
                return false;
            }
            openBrackets++;
            next();
            if (!readsLevel(LOOSEST) || !isSignOf(")")) {
                return false;
            }
            openBrackets--;
            next();
            return true;
        }

        private void addOperand(int code) {
            addCode(code);
            operands++;
        }

        private void addCode(int code) {
            if (codeCount < TAPE_BYTES) {
                codes[codeCount] = code;
                codeCount++;
            }
        }

        private static String signsOf(int level) {
            switch (level) {
                case 0: return "|";
                case 1: return "&";
                case TEST: return "<=>";
                case 3: return "+-";
                default: return "*/";
            }
        }

        private static String namesOf(int key) {
            switch (key) {
                case TAKE: return "lwt";
                case THINK: return "sgk";
                default: return "mw";
            }
        }

        private boolean isSignOf(String signs) {
            return token == SIGN && signs.indexOf((char) tape.bytes[start]) >= 0;
        }

        private boolean isWord(String word) {
            if (token != LETTERS || end - start != word.length()) {
                return false;
            }
            for (int i = 0; i < word.length(); i++) {
                if (tape.bytes[start + i] != word.charAt(i)) {
                    return false;
                }
            }
            return true;
        }

        private void next() {
            boolean wasWord = token == LETTERS || token == DIGITS;
            int wordEnd = end;
            start = end;
            while (start < tape.size && tape.bytes[start] == ' ') {
                start++;
            }
            end = start;
            token = sortAt(start);
            if (token == SIGN) {
                end++;
                return;
            }
            while (end < tape.size && token != END && sortAt(end) == token) {
                end++;
            }
            if (wasWord && token != END && start == wordEnd) {
                token = GLUED;
            }
        }

        private int sortAt(int place) {
            if (place >= tape.size) {
                return END;
            }
            int b = tape.bytes[place];
            if (b >= 'a' && b <= 'z') {
                return LETTERS;
            }
            return b >= '0' && b <= '9' ? DIGITS : SIGN;
        }
    }

    /** A row of numbers; NONE in it is no number. */
    private static final class Sheet {
        int sort = MISSING;
        int size = 0;
        final int[] places = new int[PLACES];

        void become(int newSort, int newSize) {
            sort = newSort;
            size = newSize;
            Arrays.fill(places, 0);
        }

        void takeFrom(Sheet s) {
            sort = s.sort;
            size = s.size;
            System.arraycopy(s.places, 0, places, 0, PLACES);
        }

        boolean isMissing() {
            return sort == MISSING;
        }

        boolean has(int place) {
            return isWithin(place, 0, size - 1);
        }

        boolean hasRow(int place, int length) {
            return isWithin(length, 0, size) && isWithin(place, 0, size - length);
        }
    }

    private static final class Slot {
        int holds = HOLDS_NOTHING;
        final Bit bit = new Bit();
        final Sheet row = new Sheet();
        int number = 0;
    }
}
