/** The boundary cases of promises 29 to 37, and of part 5 of the terms. */
public final class SheetsEdgesTest {
    private static final int MIN = Integer.MIN_VALUE;
    private static final int MAX = Integer.MAX_VALUE;
    private static final Due due = new Due();
    private static final Edges edges = new Edges(due);

    public static void main(String[] args) {
        sheetOfEverySize();
        sheetIsAllZero();
        sheetIsMissing();
        sheetRefuses();
        sheetSize();
        markShorts();
        markFloats();
        markRefusesInOrder();
        pourIsHeld();
        pourOfSizes();
        pourCountsOthers();
        pourRefuses();
        readsAtTheEnds();
        readsWithoutTries();
        readsRefuses();
        copyAtTheEnds();
        copyWithinItself();
        copyOfNone();
        copyIndex();
        copyRefusesInOrder();
        layOnEachOther();
        layKeepsItsOwn();
        layRefusesInOrder();
        askAtTheEnds();
        askRefusesInOrder();
        itemAtTheEnds();
        itemRefusesInOrder();
        restAtTheEnds();
        restRefusesInOrder();
        due.end("SheetsEdgesTest");
    }

    private static int at(ShortCut x, int sheet, int place) {
        x.lay(3, 2, sheet);
        return x.item(3, place);
    }

    private static ShortCut withRow(int sort, int... row) {
        ShortCut x = new ShortCut();
        putRow(x, 0, sort, row);
        return x;
    }

    private static void putRow(ShortCut x, int sheet, int sort, int... row) {
        x.sheet(sheet, sort, row.length);
        for (int i = 0; i < row.length; i++) {
            x.mark(sheet, i, row[i]);
        }
    }

    private static void isRow(String name, ShortCut x, int sheet, int... row) {
        for (int i = 0; i < row.length; i++) {
            due.is(name + ", place " + i, at(x, sheet, i), row[i]);
        }
        due.is(name + ", no more places", at(x, sheet, row.length), Due.INDEX);
    }

    // ---- 29

    private static void sheetOfEverySize() {
        for (int sheet = 0; sheet < 4; sheet++) {
            for (int sort = 0; sort < 2; sort++) {
                for (int n = 0; n <= 24; n++) {
                    ShortCut x = new ShortCut();
                    due.is("29 sheet(" + sheet + ", " + sort + ", " + n + ")", x.sheet(sheet, sort, n), n);
                    due.is("29 a place", at(x, sheet, n - 1), n == 0 ? Due.INDEX : 0);
                    due.is("29 no place", at(x, sheet, n), Due.INDEX);
                    due.is("29 its sort", x.mark(sheet, 0, Due.NONE), n == 0 ? Due.INDEX : sort == 0 ? Due.KIND : 1);
                    due.is("29 the others stay", x.wrong((sheet + 1) % 4), Due.NOTHING);
                }
            }
        }
    }

    private static void sheetIsAllZero() {
        ShortCut x = withRow(1, 5, Due.NONE, -7);
        x.sheet(0, 1, 3);
        isRow("29 as many again", x, 0, 0, 0, 0);
        putRow(x, 0, 0, 1, 2, 3, 4);
        x.sheet(0, 0, 2);
        x.sheet(0, 0, 4);
        isRow("29 fewer, then more", x, 0, 0, 0, 0, 0);
        putRow(x, 0, 1, 1, Due.NONE);
        x.sheet(0, -1, 0);
        x.sheet(0, 0, 2);
        isRow("29 MISSING, then there", x, 0, 0, 0);
    }

    private static void sheetIsMissing() {
        int[] all = {0, 1, -1, 24, 25, MIN, MAX, Due.NONE};
        for (int n : all) {
            for (int sheet = 0; sheet < 4; sheet++) {
                ShortCut x = new ShortCut();
                due.is("29 MISSING as it was, n " + n, x.sheet(sheet, -1, n), 0);
                x.sheet(sheet, 1, 3);
                due.is("29 MISSING, n " + n, x.sheet(sheet, -1, n), 0);
                due.is("29 MISSING then", x.wrong(sheet), Due.NOTHING);
            }
        }
    }

    private static void sheetRefuses() {
        edges.badOutside("29 sheet", 0, 3, v -> x -> x.sheet(v, 0, 1));
        edges.badOutside("29 sheet, to be MISSING", 0, 3, v -> x -> x.sheet(v, -1, 0));
        edges.badOutside("29 sort", -1, 1, v -> x -> x.sheet(0, v, 1));
        int[] above = {25, 26, 256, 65536, MAX - 1, MAX};
        for (int n : above) {
            edges.refusedInAll("29 n " + n, Due.BAD, x -> x.sheet(0, 0, n));
            edges.refusedInAll("29 n " + n, Due.BAD, x -> x.sheet(3, 1, n));
        }
    }

    private static void sheetSize() {
        int[] below = {-1, -2, -256, -65536, MIN, MIN + 1, Due.BAD, Due.NONE};
        for (int n : below) {
            edges.refusedInAll("29 SIZE " + n, Due.SIZE, x -> x.sheet(0, 0, n));
            edges.refusedInAll("29 SIZE " + n, Due.SIZE, x -> x.sheet(3, 1, n));
            edges.refusedInAll("29 sheet ahead of SIZE", Due.BAD, x -> x.sheet(4, 0, n));
            edges.refusedInAll("29 sort ahead of SIZE", Due.BAD, x -> x.sheet(0, 2, n));
            edges.refusedInAll("29 sort ahead of SIZE", Due.BAD, x -> x.sheet(0, -2, n));
        }
    }

    // ---- 30

    private static void markShorts() {
        int[] marked = {0, 1, -1, 32767, 32768, -32768, -32769, 65535, 65536, 65537, -65536, MIN, MAX, MIN + 1,
            Due.BAD, Due.NONE + 1, Due.NONE - 1, 100000};
        ShortCut x = new ShortCut();
        x.sheet(3, 0, 24);
        for (int v : marked) {
            int low = Math.floorMod(v, 65536);
            int want = low >= 32768 ? low - 65536 : low;
            due.is("30 mark " + v, x.mark(3, 23, v), 1);
            due.is("30 its lowest 16 bits: " + v, at(x, 3, 23), want);
        }
        due.is("30 the other places stay", at(x, 3, 22), 0);
        due.is("30 the first place", x.mark(3, 0, 77), 1);
        due.is("30 the first place", at(x, 3, 0), 77);
        due.is("30 no number is NONE there", x.mark(3, 0, Due.NONE), Due.KIND);
    }

    private static void markFloats() {
        int[] marked = {0, 1, -1, 32768, 65536, 99998, 99999, -99998, -99999};
        ShortCut x = new ShortCut();
        x.sheet(0, 1, 24);
        for (int v : marked) {
            due.is("30 mark " + v, x.mark(0, 23, v), 1);
            due.is("30 as it is: " + v, at(x, 0, 23), v);
        }
        due.is("30 NO NUMBER", x.mark(0, 23, Due.NONE), 1);
        due.is("30 NO NUMBER", at(x, 0, 23), Due.KIND);
        due.is("30 NO NUMBER again", x.mark(0, 23, Due.NONE), 1);
        due.is("30 a number again", x.mark(0, 23, 0), 1);
        due.is("30 a number again", at(x, 0, 23), 0);
    }

    private static void markRefusesInOrder() {
        edges.badOutside("30 sheet", 0, 3, v -> x -> x.mark(v, 0, 0));
        edges.badOutside("30 sheet ahead of INDEX", 0, 3, v -> x -> x.mark(v, 24, 0));
        edges.badOutside("30 sheet ahead of KIND", 0, 3, v -> x -> x.mark(v, 0, Due.NONE));
        int[] values = {0, Due.NONE, 100000, MIN, MAX};
        for (int v : values) {
            edges.refused("30 MISSING", Edges.PART, Due.NOTHING, x -> x.mark(2, 0, v));
            edges.refused("30 MISSING ahead of INDEX", Edges.PART, Due.NOTHING, x -> x.mark(2, -1, v));
            edges.refused("30 MISSING ahead of INDEX", Edges.BARE, Due.NOTHING, x -> x.mark(0, 24, v));
            edges.refused("30 no place in none", Edges.PART, Due.INDEX, x -> x.mark(3, 0, v));
        }
        for (int place : Edges.outside(0, 4)) {
            edges.refused("30 place " + place, Edges.PART, Due.INDEX, x -> x.mark(0, place, 1));
            edges.refused("30 place ahead of KIND", Edges.PART, Due.INDEX, x -> x.mark(0, place, Due.NONE));
        }
        for (int place : Edges.outside(0, 3)) {
            edges.refused("30 place " + place, Edges.PART, Due.INDEX, x -> x.mark(1, place, 1));
            edges.refused("30 place ahead of v", Edges.PART, Due.INDEX, x -> x.mark(1, place, 100000));
        }
        for (int place : Edges.outside(0, 23)) {
            edges.refused("30 place " + place, Edges.FULL, Due.INDEX, x -> x.mark(2, place, 1));
        }
        edges.refused("30 NONE in shorts", Edges.PART, Due.KIND, x -> x.mark(0, 4, Due.NONE));
        edges.refused("30 NONE in shorts", Edges.FULL, Due.KIND, x -> x.mark(2, 0, Due.NONE));
        int[] far = {100000, -100000, MIN, MAX, Due.NONE + 1, Due.NONE - 1, Due.BAD, 1 << 24};
        for (int v : far) {
            edges.refused("30 v of floats " + v, Edges.PART, Due.BAD, x -> x.mark(1, 1, v));
            edges.refused("30 v of floats " + v, Edges.FULL, Due.BAD, x -> x.mark(3, 23, v));
        }
    }

    // ---- 31

    private static void pourIsHeld() {
        int[] poured = {-99999, -32768, -1, 0, 1, 998, 999, 1000, 32767, 99999};
        int[] said = {0, 0, 0, 0, 1, 998, 999, 999, 999, 999};
        ShortCut x = withRow(1, poured);
        x.deal(10);
        due.is("31 all are otherwise", x.pour(0), 10);
        for (int i = 0; i < 10; i++) {
            due.is("31 of " + poured[i], x.told(i, 5), said[i]);
        }
        due.is("31 none are otherwise", x.pour(0), 0);
        ShortCut y = withRow(0, 32767, -32768);
        y.deal(2);
        due.is("31 shorts", y.pour(0), 2);
        due.is("31 the greatest short", y.told(0, 5), 999);
        due.is("31 the least short", y.told(1, 5), 0);
    }

    private static void pourOfSizes() {
        for (int bits = 0; bits <= 14; bits += 7) {
            for (int places = 0; places <= 24; places += 6) {
                ShortCut x = new ShortCut();
                if (bits > 0) {
                    x.deal(bits);
                }
                x.sheet(2, 0, places);
                due.is("31 " + places + " places, " + bits + " BITS", x.pour(2), Math.min(bits, places));
                due.is("31 of how many then", x.count(6), Math.min(bits, places));
                for (int i = 0; i < bits; i++) {
                    due.is("31 beyond the SHEET it stays", x.told(i, 5), i < places ? 0 : Due.NONE);
                }
            }
        }
    }

    private static void pourCountsOthers() {
        ShortCut x = withRow(1, 5, Due.NONE, 0, 2000, Due.NONE);
        x.deal(5);
        x.set(0, 5, 5);
        x.set(1, 5, 6);
        x.set(2, 5, 1);
        x.set(3, 5, 999);
        due.is("31 one alone is otherwise", x.pour(0), 1);
        int[] said = {5, 6, 0, 999, Due.NONE};
        for (int i = 0; i < 5; i++) {
            due.is("31 SAID of " + i, x.told(i, 5), said[i]);
        }
        x.set(2, 5, Due.NONE);
        due.is("31 from nothing to 0 is otherwise", x.pour(0), 1);
        x.mark(0, 0, Due.NONE);
        due.is("31 NO NUMBER: it stays", x.pour(0), 0);
        due.is("31 NO NUMBER: it stays", x.told(0, 5), 5);
        due.is("31 the SHEET stays", x.item(0, 0), Due.NOTHING);
        isRow("31 the SHEET stays", x, 0, Due.KIND, Due.KIND, 0, 2000, Due.KIND);
    }

    private static void pourRefuses() {
        edges.badOutside("31 sheet", 0, 3, v -> x -> x.pour(v));
        edges.refused("31 MISSING", Edges.PART, Due.NOTHING, x -> x.pour(2));
        for (int s = 0; s < 4; s++) {
            int sheet = s;
            edges.refused("31 MISSING", Edges.BARE, Due.NOTHING, x -> x.pour(sheet));
        }
    }

    // ---- 32

    /** A walk of 56 tries: more than a sheet has places. */
    private static ShortCut longWalk() {
        ShortCut x = new ShortCut();
        for (int i = 0; i < 6; i++) {
            x.bit(5, i, i + 1, 1);
            x.set(i, 5, 1);
        }
        for (int i = 0; i < 8; i++) {
            x.bit(1, i % 2 == 0 ? 6 : 0, 7, 99);
            x.set(6 + i, 5, 1 + 10 * i);
        }
        x.walk(0, 7);
        return x;
    }

    private static void readsAtTheEnds() {
        ShortCut x = longWalk();
        for (int sort = 0; sort < 2; sort++) {
            x.sheet(0, sort, 24);
            for (int i = 0; i < 24; i++) {
                x.mark(0, i, 14);
            }
            for (int i = 0; i < 24; i++) {
                due.is("32 up to " + i, x.reads(0), i);
                x.mark(0, i, x.tried(i));
            }
            due.is("32 there is none", x.reads(0), Due.NONE);
            x.mark(0, 23, x.tried(23) + 1);
            due.is("32 the last", x.reads(0), 23);
            x.mark(0, 0, -1);
            due.is("32 the first", x.reads(0), 0);
        }
        x.sheet(1, 0, 0);
        due.is("32 no places", x.reads(1), Due.NONE);
        x.sheet(2, 1, 24);
        for (int i = 0; i < 24; i++) {
            x.mark(2, i, Due.NONE);
        }
        due.is("32 no numbers", x.reads(2), Due.NONE);
        x.mark(2, 23, 99999);
        due.is("32 the last, of numbers alone", x.reads(2), 23);
    }

    private static void readsWithoutTries() {
        ShortCut x = withRow(1, Due.NONE, 0, 0);
        putRow(x, 1, 0, 0);
        putRow(x, 2, 1, Due.NONE, Due.NONE);
        x.sheet(3, 0, 0);
        int[] want = {1, 0, Due.NONE, Due.NONE};
        for (int i = 0; i < 4; i++) {
            due.is("32 there was no WALK", x.reads(i), want[i]);
        }
        x.bit(5, 0, 1, 9);
        x.walk(1, 1);
        for (int i = 0; i < 4; i++) {
            due.is("32 a WALK without tries", x.reads(i), want[i]);
        }
        x.walk(0, 1);
        int[] then = {1, Due.NONE, Due.NONE, Due.NONE};
        for (int i = 0; i < 4; i++) {
            due.is("32 a WALK of one try", x.reads(i), then[i]);
        }
        putRow(x, 1, 0, 0, 0);
        due.is("32 one place too many", x.reads(1), 1);
    }

    private static void readsRefuses() {
        edges.badOutside("32 sheet", 0, 3, v -> x -> x.reads(v));
        edges.refused("32 MISSING", Edges.PART, Due.NOTHING, x -> x.reads(2));
        for (int s = 0; s < 4; s++) {
            int sheet = s;
            edges.refused("32 MISSING, no WALK", Edges.BARE, Due.NOTHING, x -> x.reads(sheet));
        }
        edges.refused("32 there is none", Edges.PART, Due.NONE, x -> x.reads(3));
    }

    // ---- 33

    private static void copyAtTheEnds() {
        ShortCut x = new ShortCut();
        x.sheet(0, 1, 24);
        x.sheet(3, 1, 24);
        for (int i = 0; i < 24; i++) {
            x.mark(0, i, i == 9 ? Due.NONE : 1000 * i - 10000);
        }
        due.is("33 all", x.copy(0, 0, 3, 0, 24), 24);
        for (int i = 0; i < 24; i++) {
            due.is("33 all, " + i, at(x, 3, i), i == 9 ? Due.KIND : 1000 * i - 10000);
        }
        x.sheet(3, 1, 24);
        due.is("33 the last to the first", x.copy(0, 23, 3, 0, 1), 1);
        due.is("33 the first to the last", x.copy(0, 0, 3, 23, 1), 1);
        due.is("33 the last to the first", at(x, 3, 0), 13000);
        due.is("33 the first to the last", at(x, 3, 23), -10000);
        due.is("33 the others stay", at(x, 3, 1), 0);
        due.is("33 the others stay", at(x, 3, 22), 0);
        due.is("33 one is a copy of its own", x.mark(0, 23, 1), 1);
        due.is("33 one is a copy of its own", at(x, 3, 0), 13000);
        ShortCut y = withRow(0, -32768, 32767);
        y.sheet(1, 0, 2);
        due.is("33 shorts", y.copy(0, 0, 1, 0, 2), 2);
        isRow("33 shorts", y, 1, -32768, 32767);
    }

    private static void copyWithinItself() {
        for (int from = 0; from <= 6; from++) {
            for (int at = 0; at <= 6; at++) {
                for (int many = 0; many <= 6; many++) {
                    int[] row = {10, 11, 12, 13, 14, 15};
                    ShortCut x = withRow(0, row);
                    boolean fits = from + many <= 6 && at + many <= 6;
                    String name = "33 copy(0, " + from + ", 0, " + at + ", " + many + ")";
                    due.is(name, x.copy(0, from, 0, at, many), fits ? many : Due.INDEX);
                    for (int i = 0; i < 6; i++) {
                        boolean came = fits && i >= at && i < at + many;
                        due.is(name + ", as they were, " + i, at(x, 0, i), came ? 10 + from + i - at : 10 + i);
                    }
                }
            }
        }
    }

    private static void copyOfNone() {
        ShortCut x = withRow(0, 1, 2, 3);
        x.sheet(1, 0, 0);
        x.sheet(2, 0, 24);
        due.is("33 none", x.copy(0, 0, 2, 0, 0), 0);
        due.is("33 none, behind the last", x.copy(0, 3, 2, 24, 0), 0);
        due.is("33 none, beyond, from", x.copy(0, 4, 2, 24, 0), Due.INDEX);
        due.is("33 none, beyond, to", x.copy(0, 3, 2, 25, 0), Due.INDEX);
        due.is("33 none of none", x.copy(1, 0, 1, 0, 0), 0);
        due.is("33 none of none, beyond", x.copy(1, 1, 1, 0, 0), Due.INDEX);
        due.is("33 none of none, beyond", x.copy(1, 0, 1, 1, 0), Due.INDEX);
        due.is("33 one of none", x.copy(1, 0, 0, 0, 1), Due.INDEX);
        due.is("33 one to none", x.copy(0, 0, 1, 0, 1), Due.INDEX);
    }

    private static void copyIndex() {
        for (int v : Edges.outside(0, 5)) {
            edges.refused("33 place " + v, Edges.PART, Due.INDEX, x -> x.copy(0, v, 0, 0, 0));
            edges.refused("33 at " + v, Edges.PART, Due.INDEX, x -> x.copy(0, 0, 0, v, 0));
            edges.refused("33 many " + v, Edges.PART, Due.INDEX, x -> x.copy(0, 0, 0, 0, v));
            edges.refused("33 all " + v, Edges.PART, Due.INDEX, x -> x.copy(0, v, 0, v, v));
        }
        for (int v : Edges.outside(0, 24)) {
            edges.refused("33 place " + v, Edges.FULL, Due.INDEX, x -> x.copy(0, v, 2, 0, 1));
            edges.refused("33 at " + v, Edges.FULL, Due.INDEX, x -> x.copy(0, 0, 2, v, 1));
            edges.refused("33 many " + v, Edges.FULL, Due.INDEX, x -> x.copy(0, 0, 2, 0, v));
        }
        int[][] together = {{MAX, 0, 1}, {MAX, MAX, MAX}, {1, 1, MAX}, {0, MAX, 1}, {MIN, MIN, MIN}, {MIN, 0, MIN},
            {24, 0, 1}, {0, 24, 1}, {23, 0, 2}, {0, 23, 2}, {1, 0, 24}, {0, 1, 24}, {-1, 0, 1}, {0, -1, 1},
            {-1, -1, 1}, {1, 1, -1}, {24, 24, -1}, {MAX, 0, -MAX}, {0, MAX, MIN}};
        for (int[] t : together) {
            edges.refused("33 INDEX", Edges.FULL, Due.INDEX, x -> x.copy(1, t[0], 3, t[1], t[2]));
            edges.refused("33 INDEX, the same", Edges.FULL, Due.INDEX, x -> x.copy(1, t[0], 1, t[1], t[2]));
        }
    }

    private static void copyRefusesInOrder() {
        edges.badOutside("33 from", 0, 3, v -> x -> x.copy(v, 0, 0, 0, 0));
        edges.badOutside("33 to", 0, 3, v -> x -> x.copy(0, 0, v, 0, 0));
        edges.badOutside("33 from ahead of NOTHING", 0, 3, v -> x -> x.copy(v, 0, 2, 0, 0));
        edges.badOutside("33 to ahead of NOTHING", 0, 3, v -> x -> x.copy(2, 0, v, 0, 0));
        edges.badOutside("33 to ahead of INDEX", 0, 3, v -> x -> x.copy(0, -1, v, 0, 99));
        edges.refused("33 from MISSING", Edges.PART, Due.NOTHING, x -> x.copy(2, 0, 0, 0, 0));
        edges.refused("33 to MISSING", Edges.PART, Due.NOTHING, x -> x.copy(0, 0, 2, 0, 0));
        edges.refused("33 to MISSING", Edges.PART, Due.NOTHING, x -> x.copy(1, 0, 2, 0, 0));
        edges.refused("33 both MISSING", Edges.PART, Due.NOTHING, x -> x.copy(2, 0, 2, 0, 0));
        edges.refused("33 from MISSING ahead of INDEX", Edges.PART, Due.NOTHING, x -> x.copy(2, 9, 0, 9, -1));
        edges.refused("33 to MISSING ahead of INDEX", Edges.PART, Due.NOTHING, x -> x.copy(0, 9, 2, 9, -1));
        edges.refused("33 KIND", Edges.PART, Due.KIND, x -> x.copy(0, 0, 1, 0, 1));
        edges.refused("33 KIND", Edges.PART, Due.KIND, x -> x.copy(1, 0, 0, 0, 1));
        edges.refused("33 KIND, none", Edges.PART, Due.KIND, x -> x.copy(3, 0, 1, 0, 0));
        edges.refused("33 KIND ahead of INDEX", Edges.PART, Due.KIND, x -> x.copy(0, 6, 1, 0, 1));
        edges.refused("33 KIND ahead of INDEX", Edges.PART, Due.KIND, x -> x.copy(1, 0, 0, -1, 1));
        edges.refused("33 KIND ahead of INDEX", Edges.PART, Due.KIND, x -> x.copy(1, 0, 0, 0, -1));
    }

    // ---- 34

    private static void layOnEachOther() {
        for (int slot = 0; slot < 5; slot++) {
            for (int held = 0; held < 4; held++) {
                for (int thing = 0; thing < 4; thing++) {
                    ShortCut x = new ShortCut();
                    x.bit(5, 0, 1, 9);
                    x.sheet(0, 0, 1);
                    x.lay(slot, held, 0);
                    due.is("34 " + thing + " on " + held, x.lay(slot, thing, 0), held);
                    due.is("34 then a BIT", x.ask(slot, 0), thing == 0 ? Due.NOTHING : thing == 1 ? 60 : Due.KIND);
                    due.is("34 then a SHEET", x.item(slot, 0), thing == 0 ? Due.NOTHING : thing == 2 ? 0 : Due.KIND);
                    due.is("34 then a number", x.rest(slot, 1), thing == 0 ? Due.NOTHING : thing == 3 ? 0 : Due.KIND);
                    due.is("34 others hold nothing", x.rest((slot + 1) % 5, 1), Due.NOTHING);
                }
            }
        }
        int[] any = {0, 1, -1, MIN, MAX, Due.BAD, Due.NONE};
        for (int k : any) {
            ShortCut x = new ShortCut();
            due.is("34 nothing, k " + k, x.lay(0, 0, k), 0);
            due.is("34 a number, k " + k, x.lay(0, 3, k), 0);
            due.is("34 nothing, k " + k, x.lay(0, 0, k), 3);
        }
        ShortCut x = Edges.FULL.make();
        due.is("34 the last BIT", x.lay(4, 1, 13), 2);
        due.is("34 the last SHEET", x.lay(4, 2, 3), 1);
    }

    /** A BIT as it is then, for good; a SHEET as it was then, a row of its own. */
    private static void layKeepsItsOwn() {
        ShortCut x = new ShortCut();
        x.keep();
        x.bit(1, 0, 1, 90);
        putRow(x, 0, 1, 7, Due.NONE);
        x.lay(0, 1, 0);
        x.lay(1, 2, 0);
        x.lay(2, 2, 0);
        x.set(0, 3, 1);
        x.turns(0, 5);
        x.mark(0, 0, 8);
        due.is("34 a BIT", x.ask(0, 1), 94);
        due.is("34 a SHEET", x.item(1, 0), 7);
        x.back();
        x.sheet(0, 0, 24);
        due.is("34 a BIT that is no more", x.ask(0, 0), 94);
        due.is("34 a SHEET that is another", x.item(1, 1), Due.KIND);
        due.is("34 a SHEET that is another", x.item(1, 2), Due.INDEX);
        x.sheet(0, -1, 0);
        due.is("34 a SHEET that is MISSING", x.item(1, 0), 7);
        x.bit(2, 0, 1, 40);
        due.is("34 a BIT of the same number", x.ask(0, 1), 94);
        x.lay(1, 0, 0);
        due.is("34 each SLOT has its own", x.item(2, 0), 7);
    }

    private static void layRefusesInOrder() {
        for (int thing = 0; thing < 4; thing++) {
            int t = thing;
            edges.badOutside("34 slot", 0, 4, v -> x -> x.lay(v, t, 0));
        }
        edges.badOutside("34 thing", 0, 3, v -> x -> x.lay(0, v, 0));
        edges.badBits("34 k of a BIT", v -> x -> x.lay(0, 1, v));
        edges.badOutside("34 k of a SHEET", 0, 3, v -> x -> x.lay(0, 2, v));
        edges.badOutside("34 slot ahead of NOTHING", 0, 4, v -> x -> x.lay(v, 2, 2));
        for (int s = 0; s < 5; s++) {
            int slot = s;
            edges.refused("34 MISSING", Edges.PART, Due.NOTHING, x -> x.lay(slot, 2, 2));
            edges.refused("34 MISSING", Edges.BARE, Due.NOTHING, x -> x.lay(slot, 2, 3));
        }
    }

    // ---- 35

    private static final String[] UNDER = {"0", "01", "02", "013", "024", "05"};

    private static void askAtTheEnds() {
        int[] least = {1, 5, 98, 10, 92, 60};
        int[] greatest = {99, 103, 0, 206, -6, 60};
        for (int kind = 0; kind < 6; kind++) {
            for (int end = 0; end < 2; end++) {
                ShortCut x = new ShortCut();
                x.bit(kind, 0, 1, end == 0 ? 1 : 99);
                x.lay(4, 1, 0);
                for (int k = 0; k < 6; k++) {
                    boolean is = UNDER[kind].indexOf('0' + k) >= 0;
                    int worth = end == 0 ? least[kind] : greatest[kind];
                    due.is("35 a " + kind + " taken for a " + k, x.ask(4, k), is ? worth : Due.KIND);
                }
            }
        }
    }

    private static void askRefusesInOrder() {
        edges.badOutside("35 slot", 0, 4, v -> x -> x.ask(v, 0));
        edges.badOutside("35 kind", 0, 5, v -> x -> x.ask(0, v));
        edges.badOutside("35 kind ahead of NOTHING or KIND", 0, 5, v -> x -> x.ask(3, v));
        edges.badOutside("35 kind ahead of KIND", 0, 5, v -> x -> x.ask(2, v));
        for (int k = 0; k < 6; k++) {
            int kind = k;
            edges.refused("35 nothing", Edges.BARE, Due.NOTHING, x -> x.ask(0, kind));
            edges.refused("35 nothing", Edges.PART, Due.NOTHING, x -> x.ask(3, kind));
            edges.refused("35 a SHEET", Edges.PART, Due.KIND, x -> x.ask(1, kind));
            edges.refused("35 a number", Edges.PART, Due.KIND, x -> x.ask(2, kind));
        }
        edges.refused("35 a PATH is no WILD", Edges.PART, Due.KIND, x -> x.ask(0, 2));
        edges.refused("35 a TRACK is no PATH", Edges.FULL, Due.KIND, x -> x.ask(0, 3));
    }

    // ---- 36

    private static void itemAtTheEnds() {
        ShortCut x = new ShortCut();
        x.sheet(0, 1, 24);
        x.mark(0, 0, 99999);
        x.mark(0, 23, -99999);
        for (int slot = 0; slot < 5; slot++) {
            x.lay(slot, 2, 0);
            due.is("36 the first", x.item(slot, 0), 99999);
            due.is("36 the last", x.item(slot, 23), -99999);
            due.is("36 between", x.item(slot, 11), 0);
            due.is("36 no more", x.item(slot, 24), Due.INDEX);
        }
        x.sheet(1, 0, 1);
        x.mark(1, 0, 32768);
        x.lay(0, 2, 1);
        due.is("36 of one place", x.item(0, 0), -32768);
        due.is("36 what the SLOT held is no more", x.item(0, 1), Due.INDEX);
        x.sheet(1, 1, 0);
        x.lay(0, 2, 1);
        due.is("36 of no place", x.item(0, 0), Due.INDEX);
    }

    private static void itemRefusesInOrder() {
        edges.badOutside("36 slot", 0, 4, v -> x -> x.item(v, 0));
        edges.badOutside("36 slot ahead of INDEX", 0, 4, v -> x -> x.item(v, -1));
        for (int place : Edges.outside(0, 3)) {
            edges.refused("36 nothing ahead of INDEX", Edges.PART, Due.NOTHING, x -> x.item(3, place));
            edges.refused("36 a BIT, KIND ahead of INDEX", Edges.PART, Due.KIND, x -> x.item(0, place));
            edges.refused("36 a number, KIND ahead of INDEX", Edges.PART, Due.KIND, x -> x.item(2, place));
            edges.refused("36 place " + place, Edges.PART, Due.INDEX, x -> x.item(1, place));
        }
        for (int place : Edges.outside(0, 23)) {
            edges.refused("36 place " + place, Edges.FULL, Due.INDEX, x -> x.item(1, place));
        }
        edges.refused("36 nothing", Edges.BARE, Due.NOTHING, x -> x.item(0, 0));
        edges.refused("36 a BIT", Edges.PART, Due.KIND, x -> x.item(0, 0));
        edges.refused("36 a number", Edges.PART, Due.KIND, x -> x.item(2, 0));
        edges.refused("36 NO NUMBER", Edges.PART, Due.KIND, x -> x.item(1, 1));
        edges.refused("36 NO NUMBER", Edges.FULL, Due.KIND, x -> x.item(1, 23));
    }

    // ---- 37

    private static void restAtTheEnds() {
        int[] all = {0, 1, -1, 2, -2, 7, -7, 10, -10, MIN, MIN + 1, MAX, MAX - 1, Due.NONE};
        ShortCut x = new ShortCut();
        for (int k : all) {
            x.lay(4, 3, k);
            for (int n : all) {
                if (n != 0) {
                    long cut = (long) k / n;
                    due.is("37 of " + k + " by " + n, x.rest(4, n), (long) k - cut * n);
                }
            }
        }
    }

    private static void restRefusesInOrder() {
        edges.badOutside("37 slot", 0, 4, v -> x -> x.rest(v, 1));
        edges.badOutside("37 slot ahead of NO", 0, 4, v -> x -> x.rest(v, 0));
        int[] all = {0, 1, MIN, MAX};
        for (int n : all) {
            edges.refused("37 nothing ahead of NO", Edges.BARE, Due.NOTHING, x -> x.rest(4, n));
            edges.refused("37 nothing ahead of NO", Edges.PART, Due.NOTHING, x -> x.rest(3, n));
            edges.refused("37 a BIT, KIND ahead of NO", Edges.PART, Due.KIND, x -> x.rest(0, n));
            edges.refused("37 a SHEET, KIND ahead of NO", Edges.PART, Due.KIND, x -> x.rest(1, n));
        }
        edges.refused("37 by 0", Edges.PART, Due.NO, x -> x.rest(2, 0));
        edges.refused("37 by 0", Edges.FULL, Due.NO, x -> x.rest(2, 0));
    }
}
