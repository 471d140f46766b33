/** The boundary cases of promises 1 to 9, and of part 1 of the terms. */
public final class BitsEdgesTest {
    private static final int MIN = Integer.MIN_VALUE;
    private static final int MAX = Integer.MAX_VALUE;
    private static final Due due = new Due();
    private static final Edges edges = new Edges(due);

    public static void main(String[] args) {
        nothingThereYet();
        objectsAreApart();
        bitTakes();
        bitRefuses();
        bitIsFull();
        toldTakes();
        toldRefuses();
        takeIsHeld();
        trackIsOneAtLeast();
        pathIsHalfCut();
        wildIsTwice();
        roadIsLong();
        barredAt();
        thinksWithoutText();
        thinkIsHeld();
        worthAtTheEnds();
        asAtTheEnds();
        asRefuses();
        turnsAmongAll();
        turnsRefuses();
        setAtTheEnds();
        setRefuses();
        ruleAtTheEnds();
        ruleRefuses();
        dealAtTheEnds();
        dealDraws();
        dealRefuses();
        seedAtTheEnds();
        drawsWrap();
        due.end("BitsEdgesTest");
    }

    // ---- 1

    private static void newIs(String call, int want, Edges.Call on) {
        due.is("1 new: " + call, on.on(new ShortCut()), want);
    }

    private static void nothingThereYet() {
        for (int what = 0; what < 10; what++) {
            int w = what;
            newIs("told", Due.BAD, x -> x.told(0, w));
        }
        newIs("bit", 0, x -> x.bit(0, 0, 1, 1));
        newIs("as", Due.BAD, x -> x.as(0, 0));
        newIs("turns", Due.BAD, x -> x.turns(0, 0));
        newIs("set", Due.BAD, x -> x.set(0, 3, 1));
        newIs("WET", 0, x -> x.rule(0, 1));
        newIs("GUESS", 20, x -> x.rule(1, 1));
        newIs("z", 1, x -> x.seed(0));
        newIs("walk", 0, x -> x.walk(0, 1));
        newIs("latest", Due.NONE, x -> x.latest(3));
        newIs("tried", Due.NONE, x -> x.tried(0));
        newIs("hush", 0, ShortCut::hush);
        newIs("best", Due.NONE, x -> x.best(0, 1));
        newIs("best of itself", 0, x -> x.best(0, 0));
        newIs("loses", Due.NONE, x -> x.loses(0, 1));
        newIs("loses of itself", 0, x -> x.loses(0, 0));
        newIs("behind", 0, x -> x.behind(0, 1, 40));
        newIs("same", 1, x -> x.same(0, 1));
        newIs("look", Due.NONE, x -> x.look(0, 0, 0));
        newIs("look", Due.NONE, x -> x.look(0, 0, 1));
        newIs("wanted", Due.NONE, x -> x.wanted(0, 0));
        newIs("reach", 128, x -> x.reach(7, 999));
        newIs("ever", 0, x -> x.ever(0, 1, 40));
        newIs("fine", 0, ShortCut::fine);
        newIs("feed", 12, x -> x.feed(0, 0, 0));
        newIs("trim", 0, x -> x.trim(0));
        newIs("text", -100, ShortCut::text);
        newIs("textTold", Due.BAD, x -> x.textTold(0, 0));
        newIs("lay", 0, x -> x.lay(4, 0, 0));
        newIs("lay of a BIT", Due.BAD, x -> x.lay(0, 1, 0));
        newIs("tell", 1, x -> x.tell(0));
        newIs("check", Due.NO, x -> x.check(0, 1, 1));
        newIs("keep", 0, ShortCut::keep);
        newIs("back", Due.NO, ShortCut::back);
        for (int key = 0; key < 3; key++) {
            int k = key;
            newIs("why", Due.NONE, x -> x.why(k));
        }
        for (int sheet = 0; sheet < 4; sheet++) {
            int s = sheet;
            newIs("wrong", Due.NOTHING, x -> x.wrong(s));
            newIs("mark", Due.NOTHING, x -> x.mark(s, 0, 0));
            newIs("pour", Due.NOTHING, x -> x.pour(s));
            newIs("reads", Due.NOTHING, x -> x.reads(s));
            newIs("copy", Due.NOTHING, x -> x.copy(s, 0, s, 0, 0));
            newIs("lay of a SHEET", Due.NOTHING, x -> x.lay(0, 2, s));
        }
        for (int slot = 0; slot < 5; slot++) {
            int s = slot;
            newIs("ask", Due.NOTHING, x -> x.ask(s, 0));
            newIs("item", Due.NOTHING, x -> x.item(s, 0));
            newIs("rest", Due.NOTHING, x -> x.rest(s, 1));
        }
        int[] counts = {0, 0, 0, 0, 20, 0, 0, 0, 0, 0, 1};
        for (int what = 0; what < counts.length; what++) {
            int w = what;
            newIs("count " + w, counts[w], x -> x.count(w));
        }
    }

    private static void objectsAreApart() {
        ShortCut one = new ShortCut();
        ShortCut filled = Edges.FULL.make();
        due.is("1 apart: BITS", one.count(0), 0);
        due.is("1 apart: TEXTS", one.count(7), 0);
        due.is("1 apart: z", one.count(10), 1);
        due.is("1 apart: SHEETS", one.wrong(0), Due.NOTHING);
        due.is("1 apart: IMAGE", one.back(), Due.NO);
        due.is("1 apart: the other one", filled.count(0), 14);
    }

    // ---- 2

    private static void bitTakes() {
        ShortCut x = null;
        int n = 14;
        for (int from = 0; from < 8; from++) {
            for (int to = 0; to < 8; to++) {
                if (from == to) {
                    int s = from;
                    edges.refused("2 a SPOT and itself", Edges.BARE, Due.BAD, y -> y.bit(0, s, s, 1));
                    continue;
                }
                if (n == 14) {
                    x = new ShortCut();
                    n = 0;
                }
                due.is("2 SPOTS " + from + " " + to, x.bit(n % 6, from, to, 1 + 98 * (n % 2)), n);
                due.is("2 KIND", x.told(n, 0), n % 6);
                due.is("2 one SPOT", x.told(n, 1), from);
                due.is("2 the other", x.told(n, 2), to);
                due.is("2 LONG at its ends", x.told(n, 3), 1 + 98 * (n % 2));
                due.is("2 TRODDEN at first", x.told(n, 4), 0);
                due.is("2 SAID at first", x.told(n, 5), Due.NONE);
                n++;
            }
        }
    }

    private static void bitRefuses() {
        edges.badOutside("2 kind", 0, 5, v -> x -> x.bit(v, 0, 1, 1));
        edges.badOutside("2 from", 0, 7, v -> x -> x.bit(0, v, 1, 1));
        edges.badOutside("2 to", 0, 7, v -> x -> x.bit(0, 1, v, 1));
        edges.badOutside("2 long", 1, 99, v -> x -> x.bit(0, 0, 1, v));
        edges.badOutside("2 from and to, the same", 0, 7, v -> x -> x.bit(0, v, v, 1));
    }

    private static void bitIsFull() {
        ShortCut x = new ShortCut();
        for (int i = 0; i < 14; i++) {
            due.is("2 not full yet", x.bit(5, i % 7, 7, 99), i);
        }
        due.is("2 one more", x.bit(5, 0, 7, 99), Due.FULL);
        due.is("2 and one more", x.bit(5, 0, 7, 99), Due.FULL);
        edges.refused("2 FULL", Edges.FULL, Due.FULL, y -> y.bit(0, 0, 7, 1));
        edges.refused("2 FULL", Edges.FULL, Due.FULL, y -> y.bit(5, 7, 0, 99));
        edges.refused("2 one SPOT ahead of FULL", Edges.FULL, Due.BAD, y -> y.bit(0, 3, 3, 1));
        ShortCut y = new ShortCut();
        y.deal(13);
        y.keep();
        y.deal(1);
        due.is("2 full", y.bit(0, 0, 1, 1), Due.FULL);
        y.back();
        due.is("2 room again", y.bit(0, 0, 1, 1), 13);
        due.is("2 full again", y.bit(0, 0, 1, 1), Due.FULL);
    }

    // ---- 3

    private static void toldTakes() {
        ShortCut x = new ShortCut();
        for (int i = 0; i < 14; i++) {
            x.bit(5, 0, 1, 50 + i);
        }
        due.is("3 the first BIT", x.told(0, 3), 50);
        due.is("3 the last BIT", x.told(13, 3), 63);
    }

    private static void toldRefuses() {
        edges.badBits("3 bit", v -> x -> x.told(v, 0));
        edges.badBits("3 bit", v -> x -> x.told(v, 9));
        edges.badOutside("3 what", 0, 9, v -> x -> x.told(0, v));
    }

    private static final String WITH_MIN = "4096*4096*128";

    /** What a text gives (the value of e), and within what it is held. */
    private static void heldTakes(String e, int want) {
        ShortCut x = new ShortCut();
        x.bit(0, 0, 1, 50);
        Due.putText(x, "take " + e);
        due.is("3 TAKES of take " + e, x.told(0, 6), want);
        due.is("10 it takes so long", x.walk(0, 1), want);
    }

    private static void takeIsHeld() {
        heldTakes("0", 1);
        heldTakes("1", 1);
        heldTakes("2", 2);
        heldTakes("0-1", 1);
        heldTakes("998", 998);
        heldTakes("999", 999);
        heldTakes("1000", 999);
        heldTakes("9999", 999);
        heldTakes(WITH_MIN, 1);
        heldTakes(WITH_MIN + "-1", 999);
        ShortCut x = new ShortCut();
        x.bit(0, 0, 1, 1);
        due.is("3 without a text LONG, least", x.told(0, 6), 1);
        x.set(0, 3, 99);
        due.is("3 without a text LONG, greatest", x.told(0, 6), 99);
    }

    /** A BIT of a KIND that would take asBit as a BIT, TRODDEN so often. */
    private static int takes(int kind, int asBit, int trodden, int wet) {
        ShortCut x = new ShortCut();
        x.bit(kind, 0, 1, 1);
        x.set(0, 4, trodden);
        x.rule(0, wet);
        Due.putText(x, "take " + asBit);
        return x.told(0, 6);
    }

    private static void trackIsOneAtLeast() {
        due.is("3 TRACK", takes(1, 999, 0, 0), 999);
        due.is("3 TRACK", takes(1, 999, 997, 0), 2);
        due.is("3 TRACK", takes(1, 999, 998, 0), 1);
        due.is("3 TRACK, 0 is 1", takes(1, 999, 999, 0), 1);
        due.is("3 TRACK, below 0 is 1", takes(1, 1, 999, 0), 1);
        due.is("3 TRACK, wet", takes(1, 10, 3, 1), 7);
        due.is("3 TRACK, less TRODDEN from what is held", takes(1, 5000, 999, 0), 1);
        due.is("3 TRACK, less TRODDEN from what is held", takes(1, 5000, 9, 0), 990);
        due.is("3 TRACK, less TRODDEN from what is held", takes(1, 0, 0, 0), 1);
    }

    private static void pathIsHalfCut() {
        due.is("3 PATH of 999", takes(3, 999, 0, 0), 499);
        due.is("3 PATH of 998", takes(3, 999, 1, 0), 499);
        due.is("3 PATH of 5", takes(3, 5, 0, 0), 2);
        due.is("3 PATH of 4", takes(3, 6, 2, 0), 2);
        due.is("3 PATH of 3", takes(3, 3, 0, 0), 1);
        due.is("3 PATH of 2", takes(3, 2, 0, 0), 1);
        due.is("3 PATH of 1, 0 is 1", takes(3, 1, 0, 0), 1);
        due.is("3 PATH, below 0 is 1", takes(3, 1, 999, 0), 1);
        due.is("3 PATH, wet", takes(3, 11, 0, 1), 5);
    }

    private static void wildIsTwice() {
        for (int kind = 2; kind <= 4; kind += 2) {
            due.is("3 dry, 1", takes(kind, 1, 5, 0), 1);
            due.is("3 wet, 1", takes(kind, 1, 5, 1), 2);
            due.is("3 dry, 999", takes(kind, 999, 5, 0), 999);
            due.is("3 wet, 999: twice what is held", takes(kind, 999, 5, 1), 1998);
            due.is("3 wet, 1000: twice what is held", takes(kind, 1000, 5, 1), 1998);
            due.is("3 wet, 500", takes(kind, 500, 5, 1), 1000);
            due.is("3 wet, 0: twice what is held", takes(kind, 0, 5, 1), 2);
        }
        ShortCut x = new ShortCut();
        x.bit(2, 0, 1, 99);
        x.bit(4, 0, 1, 99);
        due.is("3 WILD, without a text", x.told(0, 6), 99);
        x.rule(0, 1);
        due.is("3 WILD, wet, without a text", x.told(0, 6), 198);
        due.is("3 STREAM, wet, though it is BARRED", x.told(1, 6), 198);
    }

    private static void roadIsLong() {
        ShortCut x = new ShortCut();
        x.bit(5, 0, 1, 1);
        x.set(0, 4, 999);
        x.rule(0, 1);
        Due.putText(x, "take 700");
        due.is("3 ROAD, least", x.told(0, 6), 1);
        x.set(0, 3, 99);
        due.is("3 ROAD, greatest", x.told(0, 6), 99);
    }

    private static void barredAt() {
        int[] longs = {1, 90, 91, 99};
        for (int kind = 0; kind < 6; kind++) {
            for (int length : longs) {
                for (int wet = 0; wet < 2; wet++) {
                    ShortCut x = new ShortCut();
                    x.bit(kind, 0, 1, length);
                    x.rule(0, wet);
                    boolean byLong = (kind == 1 || kind == 3) && length >= 91;
                    boolean byWet = kind == 4 && wet == 1;
                    String name = "3 BARRED, KIND " + kind + ", LONG " + length + ", WET " + wet;
                    due.is(name, x.told(0, 7), byLong || byWet ? 1 : 0);
                }
            }
        }
    }

    private static void thinksWithoutText() {
        ShortCut x = new ShortCut();
        x.bit(0, 0, 1, 50);
        due.is("3 THINKS, GUESS at first", x.told(0, 8), 20);
        x.rule(1, 1);
        due.is("3 THINKS, least GUESS", x.told(0, 8), 1);
        x.rule(1, 99);
        due.is("3 THINKS, greatest GUESS", x.told(0, 8), 99);
        int[] said = {0, 1, 2, 998, 999};
        for (int v : said) {
            x.set(0, 5, v);
            due.is("3 THINKS, SAID " + v, x.told(0, 8), Math.max(1, v));
        }
        x.set(0, 5, Due.NONE);
        due.is("3 THINKS, nothing SAID again", x.told(0, 8), 99);
    }

    private static void heldThinks(String e, int want) {
        ShortCut x = new ShortCut();
        x.bit(0, 0, 1, 50);
        Due.putText(x, "think " + e);
        due.is("3 THINKS of think " + e, x.told(0, 8), want);
    }

    private static void thinkIsHeld() {
        heldThinks("0", 1);
        heldThinks("1", 1);
        heldThinks("2", 2);
        heldThinks("0-1", 1);
        heldThinks("998", 998);
        heldThinks("999", 999);
        heldThinks("1000", 999);
        heldThinks(WITH_MIN, 1);
        heldThinks(WITH_MIN + "-1", 999);
        heldThinks("s", 1);
        heldThinks("s+7", 7);
    }

    private static void worthAtTheEnds() {
        int[] least = {1, 5, 98, 10, 92, 60};
        int[] greatest = {99, 103, 0, 206, -6, 60};
        for (int kind = 0; kind < 6; kind++) {
            ShortCut x = new ShortCut();
            x.bit(kind, 0, 1, 1);
            due.is("3 WORTH, least LONG, KIND " + kind, x.told(0, 9), least[kind]);
            x.set(0, 3, 99);
            due.is("3 WORTH, greatest LONG, KIND " + kind, x.told(0, 9), greatest[kind]);
            x.set(0, 4, 999);
            x.rule(0, 1);
            due.is("3 WORTH hangs on LONG alone", x.told(0, 9), greatest[kind]);
        }
    }

    // ---- 4

    private static final boolean[][] IS_OF = {
        {true, false, false, false, false, false},
        {true, true, false, false, false, false},
        {true, false, true, false, false, false},
        {true, true, false, true, false, false},
        {true, false, true, false, true, false},
        {true, false, false, false, false, true}};

    private static void asAtTheEnds() {
        ShortCut x = new ShortCut();
        for (int i = 0; i < 14; i++) {
            x.bit(i % 6, 0, 1, i < 7 ? 1 : 99);
        }
        for (int i = 0; i < 14; i++) {
            for (int k = 0; k < 6; k++) {
                int length = i < 7 ? 1 : 99;
                due.is("4 as(" + i + ", " + k + ")", x.as(i, k), IS_OF[i % 6][k] ? length : Due.KIND);
            }
        }
    }

    private static void asRefuses() {
        edges.badBits("4 bit", v -> x -> x.as(v, 0));
        edges.badOutside("4 kind", 0, 5, v -> x -> x.as(0, v));
        for (int kind = 0; kind < 6; kind++) {
            for (int k = 0; k < 6; k++) {
                int bit = kind;
                int as = k;
                if (!IS_OF[kind][k]) {
                    edges.refused("4 KIND", Edges.PART, Due.KIND, x -> x.as(bit, as));
                    edges.refused("4 a bit that is none ahead of KIND", Edges.PART, Due.BAD, x -> x.as(7 + bit, as));
                }
            }
        }
    }

    // ---- 5

    private static void turnsAmongAll() {
        for (int from = 0; from < 6; from++) {
            for (int to = 0; to < 6; to++) {
                ShortCut x = new ShortCut();
                x.bit(from, 6, 2, 40);
                x.set(0, 4, 3);
                x.set(0, 5, 11);
                due.is("5 from " + from + " to " + to, x.turns(0, to), from);
                int[] told = {to, 6, 2, 40, 3, 11};
                for (int what = 0; what < told.length; what++) {
                    due.is("5 then " + what, x.told(0, what), told[what]);
                }
            }
        }
        ShortCut x = Edges.FULL.make();
        due.is("5 the last BIT", x.turns(13, 5), 1);
        due.is("5 the last BIT alone", x.told(12, 0), 2);
    }

    private static void turnsRefuses() {
        edges.badBits("5 bit", v -> x -> x.turns(v, 5));
        edges.badOutside("5 kind", 0, 5, v -> x -> x.turns(0, v));
        edges.badOutside("5 kind of the last", 0, 5, v -> x -> x.turns(13, v));
    }

    // ---- 6

    private static void setAtTheEnds() {
        ShortCut x = new ShortCut();
        x.deal(14);
        for (int i = 0; i < 14; i += 13) {
            int length = x.told(i, 3);
            due.is("6 LONG 1", x.set(i, 3, 1), length);
            due.is("6 LONG 99", x.set(i, 3, 99), 1);
            due.is("6 LONG", x.told(i, 3), 99);
            due.is("6 TRODDEN 999", x.set(i, 4, 999), 0);
            due.is("6 TRODDEN 0", x.set(i, 4, 0), 999);
            due.is("6 TRODDEN", x.told(i, 4), 0);
            due.is("6 SAID 0", x.set(i, 5, 0), Due.NONE);
            due.is("6 SAID 999", x.set(i, 5, 999), 0);
            due.is("6 SAID nothing", x.set(i, 5, Due.NONE), 999);
            due.is("6 SAID nothing again", x.set(i, 5, Due.NONE), Due.NONE);
            due.is("6 SAID", x.told(i, 5), Due.NONE);
        }
    }

    private static void setRefuses() {
        edges.badBits("6 bit", v -> x -> x.set(v, 3, 1));
        edges.badBits("6 bit", v -> x -> x.set(v, 5, Due.NONE));
        edges.badOutside("6 what", 3, 5, v -> x -> x.set(0, v, 1));
        edges.badOutside("6 what, v nothing", 3, 5, v -> x -> x.set(0, v, Due.NONE));
        edges.badOutside("6 LONG", 1, 99, v -> x -> x.set(0, 3, v));
        edges.badOutside("6 TRODDEN", 0, 999, v -> x -> x.set(0, 4, v));
        for (int v : Edges.outside(0, 999)) {
            if (v != Due.NONE) {
                edges.refusedInAll("6 SAID " + v, Due.BAD, x -> x.set(0, 5, v));
            }
        }
        edges.refusedInAll("6 SAID one below NONE", Due.BAD, x -> x.set(0, 5, Due.NONE - 1));
        edges.refusedInAll("6 SAID one above NONE", Due.BAD, x -> x.set(0, 5, Due.NONE + 1));
    }

    // ---- 7

    private static void ruleAtTheEnds() {
        ShortCut x = new ShortCut();
        due.is("7 WET 0 at first", x.rule(0, 0), 0);
        due.is("7 WET 1", x.rule(0, 1), 0);
        due.is("7 WET the same", x.rule(0, 1), 1);
        due.is("7 WET", x.count(3), 1);
        due.is("7 GUESS 20 at first", x.rule(1, 99), 20);
        due.is("7 GUESS 1", x.rule(1, 1), 99);
        due.is("7 GUESS", x.count(4), 1);
        due.is("7 WET stays", x.count(3), 1);
    }

    private static void ruleRefuses() {
        edges.badOutside("7 what", 0, 1, v -> x -> x.rule(v, 1));
        edges.badOutside("7 WET", 0, 1, v -> x -> x.rule(0, v));
        edges.badOutside("7 GUESS", 1, 99, v -> x -> x.rule(1, v));
    }

    // ---- 8

    /** By long numbers, so that nothing wraps but where it is cut. */
    private static int drawnFrom(int z) {
        long product = (long) z * 1103515245L + 12345L;
        return (int) (product & 0xffffffffL);
    }

    private static int given(int z) {
        return (int) ((z & 0xffffffffL) / 256);
    }

    private static void isDrawn(String name, ShortCut x, int bit, int z) {
        int[] gives = new int[4];
        int now = z;
        for (int i = 0; i < 4; i++) {
            now = drawnFrom(now);
            gives[i] = given(now);
        }
        int one = gives[1] % 8;
        due.is(name + " KIND", x.told(bit, 0), gives[0] % 6);
        due.is(name + " one SPOT", x.told(bit, 1), one);
        due.is(name + " the other", x.told(bit, 2), (one + 1 + gives[2] % 7) % 8);
        due.is(name + " LONG", x.told(bit, 3), 1 + gives[3] % 40);
        due.is(name + " TRODDEN", x.told(bit, 4), 0);
        due.is(name + " SAID", x.told(bit, 5), Due.NONE);
    }

    private static int behindDraws(int z, int draws) {
        int now = z;
        for (int i = 0; i < draws; i++) {
            now = drawnFrom(now);
        }
        return now;
    }

    private static void dealAtTheEnds() {
        for (int had = 0; had <= 14; had++) {
            for (int n = 1; n <= 14; n++) {
                ShortCut x = new ShortCut();
                for (int i = 0; i < had; i++) {
                    x.bit(5, 0, 1, 99);
                }
                int come = Math.min(n, 14 - had);
                String name = "8 deal(" + n + ") behind " + had;
                due.is(name, x.deal(n), come);
                due.is(name + ", BITS", x.count(0), had + come);
                due.is(name + ", no draws for others", x.count(10), behindDraws(1, 4 * come));
                for (int i = 0; i < come; i++) {
                    isDrawn(name + ", BIT " + i, x, had + i, behindDraws(1, 4 * i));
                }
            }
        }
    }

    /** Many lands by lot: each SPOT, KIND and LONG at its ends comes, and the other SPOT comes round. */
    private static void dealDraws() {
        int seen = 0;
        for (int z = -300; z < 300; z++) {
            ShortCut x = new ShortCut();
            int seed = z * 7654321;
            x.seed(seed);
            x.deal(14);
            for (int bit = 0; bit < 14; bit++) {
                isDrawn("8 z " + seed, x, bit, behindDraws(seed, 4 * bit));
                int one = x.told(bit, 1);
                int other = x.told(bit, 2);
                due.is("8 not one and itself", one == other ? 1 : 0, 0);
                seen |= x.told(bit, 0) == 0 ? 1 : 0;
                seen |= x.told(bit, 0) == 5 ? 2 : 0;
                seen |= one == 0 ? 4 : 0;
                seen |= one == 7 && other == 6 ? 8 : 0;
                seen |= one == 7 && other == 0 ? 16 : 0;
                seen |= x.told(bit, 3) == 1 ? 32 : 0;
                seen |= x.told(bit, 3) == 40 ? 64 : 0;
            }
        }
        due.is("8 all ends were drawn", seen, 127);
    }

    private static void dealRefuses() {
        edges.badOutside("8 n", 1, 14, v -> x -> x.deal(v));
    }

    // ---- 9

    private static void seedAtTheEnds() {
        ShortCut x = new ShortCut();
        int was = 1;
        int[] all = {MIN, MAX, -1, 0, Due.BAD, Due.NONE, Due.FULL, 1};
        for (int v : all) {
            due.is("9 seed(" + v + ")", x.seed(v), was);
            due.is("9 z", x.count(10), v);
            was = v;
        }
    }

    private static void drawsWrap() {
        int[] all = {MIN, MIN + 1, MAX, MAX - 1, -1, 0};
        for (int z : all) {
            ShortCut x = new ShortCut();
            x.seed(z);
            x.deal(1);
            isDrawn("9 from " + z, x, 0, z);
            due.is("9 z behind four draws from " + z, x.count(10), behindDraws(z, 4));
        }
        ShortCut x = new ShortCut();
        x.seed(MAX);
        x.deal(1);
        // 2147483647 * 1103515245 + 12345 is 2369780942852710860, in 32 bits 1043980748.
        due.is("9 KIND from the greatest z", x.told(0, 0), (1043980748 >>> 8) % 6);
    }
}
