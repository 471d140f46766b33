/** The boundary cases of promises 14 to 23, and of part 3 of the terms. */
public final class WillBeEdgesTest {
    private static final int MIN = Integer.MIN_VALUE;
    private static final int MAX = Integer.MAX_VALUE;
    private static final Due due = new Due();
    private static final Edges edges = new Edges(due);

    public static void main(String[] args) {
        spotsAreRefused();
        nothingIsChanged();
        bestAtTheEnds();
        bestIsNone();
        losesAtTheEnds();
        losesIsNone();
        behindAtTheEnds();
        behindRefuses();
        sameAtTheEnds();
        sameIsOfMinutes();
        sameIsOfOrder();
        lookAtTheEnds();
        lookIsHeld();
        lookRefuses();
        wantedAtTheEnds();
        wantedWithoutAWay();
        wantedIsNone();
        reachAtTheEnds();
        reachRefuses();
        everAtTheEnds();
        everRefuses();
        wrongAtTheEnds();
        wrongBeyondAllBits();
        wrongRefuses();
        fineAtTheEnds();
        due.end("WillBeEdgesTest");
    }

    private static void spotsAreRefused() {
        edges.badOutside("14 from", 0, 7, v -> x -> x.best(v, 0));
        edges.badOutside("14 to", 0, 7, v -> x -> x.best(0, v));
        edges.badOutside("14 both", 0, 7, v -> x -> x.best(v, v));
        edges.badOutside("15 from", 0, 7, v -> x -> x.loses(v, 0));
        edges.badOutside("15 to", 0, 7, v -> x -> x.loses(0, v));
        edges.badOutside("15 both", 0, 7, v -> x -> x.loses(v, v));
        edges.badOutside("16 from", 0, 7, v -> x -> x.behind(v, 0, 0));
        edges.badOutside("16 to", 0, 7, v -> x -> x.behind(0, v, 40));
        edges.badOutside("17 from", 0, 7, v -> x -> x.same(v, 0));
        edges.badOutside("17 to", 0, 7, v -> x -> x.same(0, v));
        edges.badOutside("17 both", 0, 7, v -> x -> x.same(v, v));
        edges.badOutside("18 from", 0, 7, v -> x -> x.look(v, 0, 0));
        edges.badOutside("18 to", 0, 7, v -> x -> x.look(0, v, 1));
        edges.badOutside("19 from", 0, 7, v -> x -> x.wanted(v, 0));
        edges.badOutside("19 to", 0, 7, v -> x -> x.wanted(0, v));
        edges.badOutside("19 both", 0, 7, v -> x -> x.wanted(v, v));
        edges.badOutside("20 from", 0, 7, v -> x -> x.reach(v, 0));
        edges.badOutside("21 from", 0, 7, v -> x -> x.ever(v, 0, 1));
        edges.badOutside("21 to", 0, 7, v -> x -> x.ever(0, v, 40));
    }

    /** All this is only thought; so what is answered at the ends changes nothing, either. */
    private static void isOnlyThought(String name, Edges.Call call) {
        for (Edges.Scene scene : Edges.ALL) {
            int answer = call.on(scene.make());
            edges.refused(name, scene, answer, call);
        }
    }

    private static void nothingIsChanged() {
        isOnlyThought("14 only thought", x -> x.best(0, 5));
        isOnlyThought("15 only thought", x -> x.loses(0, 5));
        isOnlyThought("16 only thought", x -> x.behind(0, 5, 0));
        isOnlyThought("16 only thought", x -> x.behind(5, 0, 40));
        isOnlyThought("17 only thought", x -> x.same(0, 5));
        isOnlyThought("18 only thought", x -> x.look(0, 5, 0));
        isOnlyThought("18 only thought", x -> x.look(5, 0, 1));
        isOnlyThought("19 only thought", x -> x.wanted(0, 5));
        isOnlyThought("20 only thought", x -> x.reach(0, 999));
        isOnlyThought("21 only thought", x -> x.ever(0, 5, 40));
        isOnlyThought("22 only thought", x -> x.wrong(0));
        isOnlyThought("23 only thought", ShortCut::fine);
    }

    /** The line 0 .. 7 of one KIND, each bit 1 long. */
    private static ShortCut line(int kind) {
        ShortCut x = new ShortCut();
        for (int i = 0; i < 7; i++) {
            x.bit(kind, i, i + 1, 1);
        }
        return x;
    }

    // ---- 14

    private static void bestAtTheEnds() {
        ShortCut x = line(2);
        for (int s = 0; s < 8; s++) {
            due.is("14 to itself", x.best(s, s), 0);
        }
        due.is("14 from the first to the last", x.best(0, 7), 7);
        due.is("14 from the last to the first", x.best(7, 0), 7);
        x.rule(0, 1);
        Due.putText(x, "take 999");
        due.is("14 as long as there is", x.best(0, 7), 7 * 1998);
        due.is("14 to itself all the same", x.best(7, 7), 0);
        x.bit(2, 0, 7, 1);
        due.is("14 one instead of seven", x.best(0, 7), 1998);
        ShortCut y = new ShortCut();
        for (int i = 0; i < 14; i++) {
            y.bit(5, 0, 7, 99 - i);
        }
        due.is("14 the last of 14", y.best(7, 0), 86);
    }

    private static void bestIsNone() {
        edges.refused("14 no BITS", Edges.BARE, Due.NONE, x -> x.best(0, 1));
        edges.refused("14 no way", Edges.PART, Due.NONE, x -> x.best(0, 7));
        ShortCut x = line(1);
        x.set(3, 3, 90);
        due.is("14 just open", x.best(0, 7), 96);
        x.set(3, 3, 91);
        due.is("14 just barred", x.best(0, 7), Due.NONE);
        due.is("14 just up to there", x.best(0, 3), 3);
        due.is("14 not from there on", x.best(3, 4), Due.NONE);
    }

    // ---- 15

    private static void losesAtTheEnds() {
        ShortCut x = line(2);
        x.rule(0, 1);
        Due.putText(x, "take 999");
        x.bit(5, 0, 7, 1);
        x.set(7, 5, 999);
        due.is("15 all that can be lost", x.loses(0, 7), 7 * 1998 - 1);
        due.is("15 to itself", x.loses(7, 7), 0);
        x.set(7, 5, 139);
        due.is("15 seven guesses are 140", x.loses(0, 7), 0);
    }

    private static void losesIsNone() {
        edges.refused("15 no BITS", Edges.BARE, Due.NONE, x -> x.loses(0, 1));
        edges.refused("15 no way", Edges.PART, Due.NONE, x -> x.loses(0, 7));
        ShortCut x = new ShortCut();
        x.bit(1, 0, 1, 91);
        due.is("15 barred, though the WALK takes 1", x.loses(0, 1), Due.NONE);
    }

    // ---- 16

    /**
     * A bit that takes one more each time, 1 at first, and a road of 77 of which said was SAID: walk n takes
     * n, until what was SAID of the first is more.
     */
    private static ShortCut slower(int said) {
        ShortCut x = new ShortCut();
        x.bit(0, 0, 1, 1);
        x.bit(5, 0, 1, 77);
        x.set(1, 5, said);
        Due.putText(x, "take l+t");
        return x;
    }

    private static void behindAtTheEnds() {
        ShortCut x = slower(38);
        due.is("16 behind 0", x.behind(0, 1, 0), 1);
        due.is("16 behind 1", x.behind(0, 1, 1), 2);
        due.is("16 behind 38", x.behind(0, 1, 38), 39);
        due.is("16 behind 39: 39 is more than 38", x.behind(0, 1, 39), 77);
        due.is("16 behind 40: 39 is less than 77", x.behind(0, 1, 40), 40);
        ShortCut y = slower(39);
        due.is("16 behind 39", y.behind(0, 1, 39), 40);
        due.is("16 behind 40: 40 is more than 39", y.behind(0, 1, 40), 77);
        due.is("16 to itself", y.behind(3, 3, 40), 0);
        due.is("16 no way", y.behind(3, 4, 40), 0);
        ShortCut z = new ShortCut();
        z.bit(1, 0, 1, 91);
        due.is("16 barred each time", z.behind(0, 1, 40), 1);
        ShortCut track = new ShortCut();
        track.bit(1, 0, 1, 90);
        track.set(0, 4, 960);
        Due.putText(track, "take 999");
        due.is("16 TRODDEN held: 960 and 38", track.behind(0, 1, 38), 1);
        due.is("16 TRODDEN held: 960 and 37", track.behind(0, 1, 37), 2);
        due.is("16 TRODDEN held: 999", track.behind(0, 1, 40), 1);
    }

    private static void behindRefuses() {
        edges.badOutside("16 n", 0, 40, v -> x -> x.behind(0, 1, v));
        edges.badOutside("16 n, to itself", 0, 40, v -> x -> x.behind(3, 3, v));
    }

    // ---- 17

    private static void sameAtTheEnds() {
        ShortCut x = new ShortCut();
        x.bit(1, 0, 1, 1);
        for (int length = 1; length <= 45; length++) {
            x.set(0, 3, length);
            due.is("17 a TRACK of " + length, x.same(0, 1), length <= 40 ? length : Due.NONE);
        }
        due.is("17 to itself", x.same(7, 7), 1);
        due.is("17 no way", x.same(0, 7), 1);
        x.set(0, 3, 91);
        due.is("17 barred", x.same(0, 1), 1);
        edges.refused("17 at once", Edges.BARE, 1, y -> y.same(0, 1));
        Edges.Scene never = () -> slower(99);
        edges.refused("17 not by then", never, Due.NONE, y -> y.same(0, 1));
    }

    /** The same BITS in the same order, but other MINUTES. */
    private static void sameIsOfMinutes() {
        ShortCut x = new ShortCut();
        x.bit(0, 0, 1, 1);
        Due.putText(x, "take 5-(t=2)");
        due.is("17 5, 5", x.same(0, 1), 1);
        x.walk(0, 1);
        due.is("17 5, 4, 5, 5", x.same(0, 1), 3);
    }

    /**
     * Two bits between 0 and 1, one of 34 that gets 5 less each time, one of 30 that gets 5 more; to 7 only
     * barred bits, found first at 1, then at 0. The tries of the first two walks are 0 2 1 3 and 1 2 0 3, both
     * in 66 minutes; then 45, 25, 7, 4, 4.
     */
    private static void sameIsOfOrder() {
        ShortCut x = new ShortCut();
        x.bit(0, 0, 1, 34);
        x.bit(0, 0, 1, 30);
        x.bit(1, 1, 7, 91);
        x.bit(1, 0, 7, 91);
        x.set(2, 5, 1);
        x.set(3, 5, 999);
        Due.putText(x, "take l+t*5*(l=30)-t*5*(l=34)");
        due.is("17 other order", x.same(0, 7), 6);
        int[] minutes = {66, 66, 45, 25, 7, 4, 4};
        int[][] tried = {{0, 2, 1, 3}, {1, 2, 0, 3}};
        for (int n = 0; n < minutes.length; n++) {
            due.is("16 behind " + n, x.behind(0, 7, n), minutes[n]);
        }
        for (int[] row : tried) {
            x.walk(0, 7);
            for (int i = 0; i < 4; i++) {
                due.is("12 try " + i, x.tried(i), row[i]);
            }
        }
        ShortCut y = new ShortCut();
        y.bit(5, 0, 1, 25);
        y.bit(5, 0, 1, 25);
        due.is("17 as many minutes by another BIT", y.same(0, 1), 3);
    }

    // ---- 18

    private static void lookAtTheEnds() {
        ShortCut x = new ShortCut();
        for (int i = 0; i < 14; i++) {
            x.bit(5, 0, 1, 50);
            x.set(i, 5, 30 + i);
        }
        due.is("18 none is better: the least", x.look(0, 1, 0), 0);
        due.is("18 none is better", x.look(0, 1, 1), 50);
        x.set(13, 3, 29);
        due.is("18 the last of 14", x.look(0, 1, 0), 13);
        due.is("18 the last of 14", x.look(0, 1, 1), 29);
        x.set(12, 3, 29);
        due.is("18 of two the less", x.look(0, 1, 0), 12);
        x.set(12, 3, 30);
        x.set(13, 3, 31);
        due.is("18 30 is no more than 30, but of more number", x.look(0, 1, 0), 0);
        due.is("18 30 is no more than 30, but of more number", x.look(0, 1, 1), 50);
        due.is("18 to itself", x.look(5, 5, 0), 0);
        due.is("18 to itself", x.look(5, 5, 1), 0);
        due.is("18 no way", x.look(0, 5, 0), 0);
        due.is("18 no way", x.look(0, 5, 1), 0);
        ShortCut one = new ShortCut();
        one.bit(1, 0, 1, 99);
        due.is("18 one BIT, barred", one.look(0, 1, 0), 0);
        due.is("18 one BIT, barred", one.look(0, 1, 1), 1);
    }

    /** Of the first bit 30 was SAID, of the road 999; the first takes as much as is said here. */
    private static ShortCut seen(int half) {
        ShortCut x = new ShortCut();
        x.bit(2, 0, 1, 1);
        x.bit(5, 0, 1, 50);
        x.set(0, 5, 30);
        x.set(1, 5, 999);
        x.rule(0, 1);
        Due.putText(x, "take " + half);
        return x;
    }

    private static void lookIsHeld() {
        due.is("18 998 is less than 999", seen(499).look(0, 1, 1), 998);
        due.is("18 1000 would be more, but 999 is SAID", seen(500).look(0, 1, 1), 1000);
        due.is("18 1998 would be more, but 999 is SAID", seen(999).look(0, 1, 1), 1998);
        ShortCut x = seen(999);
        x.set(1, 5, 998);
        due.is("18 999 is more than 998", x.look(0, 1, 1), 50);
        due.is("18 999 is more than 998", x.look(0, 1, 0), 0);
    }

    private static void lookRefuses() {
        edges.badOutside("18 what", 0, 1, v -> x -> x.look(0, 1, v));
        edges.badOutside("18 what, to itself", 0, 1, v -> x -> x.look(3, 3, v));
        for (int what = 0; what < 2; what++) {
            int w = what;
            edges.refused("18 no BITS", Edges.BARE, Due.NONE, x -> x.look(0, 7, w));
            edges.refused("18 no BITS, to itself", Edges.BARE, Due.NONE, x -> x.look(7, 7, w));
        }
    }

    // ---- 19

    private static void wantedAtTheEnds() {
        ShortCut x = new ShortCut();
        for (int i = 0; i < 14; i++) {
            x.bit(5, 0, 1, 50);
        }
        due.is("19 all alike: the least", x.wanted(0, 1), 0);
        due.is("19 to itself", x.wanted(7, 7), 0);
        due.is("19 no way with any", x.wanted(0, 7), 0);
        x.set(13, 3, 49);
        due.is("19 the last of 14", x.wanted(0, 1), 13);
        x.set(12, 3, 49);
        due.is("19 two of 49: each alike", x.wanted(0, 1), 0);
        ShortCut one = new ShortCut();
        one.bit(5, 0, 1, 1);
        due.is("19 one BIT", one.wanted(0, 1), 0);
    }

    /** From 0 to 2: bit 0 is the only way on from 1; without bit 1 it is by bit 2, which takes so much. */
    private static int wantedIf(int takes) {
        ShortCut x = new ShortCut();
        x.bit(5, 1, 2, 1);
        x.bit(5, 0, 1, 1);
        x.bit(0, 0, 1, 1);
        Due.putText(x, "take " + takes);
        return x.wanted(0, 2);
    }

    private static void wantedWithoutAWay() {
        due.is("19 without 0: 999, without 1: 998", wantedIf(997), 0);
        due.is("19 without 0: 999, without 1: 999", wantedIf(998), 0);
        due.is("19 without 0: 999, without 1: 1000", wantedIf(999), 1);
        ShortCut x = new ShortCut();
        x.bit(0, 0, 1, 1);
        x.bit(5, 0, 1, 1);
        x.bit(5, 1, 2, 1);
        Due.putText(x, "take 998");
        due.is("19 without 1: 999, without 2: 999, the less", x.wanted(0, 2), 1);
        Due.putText(x, "take 997");
        due.is("19 without 1: 998, without 2: 999", x.wanted(0, 2), 2);
    }

    private static void wantedIsNone() {
        edges.refused("19 no BITS", Edges.BARE, Due.NONE, x -> x.wanted(0, 7));
        edges.refused("19 no BITS, to itself", Edges.BARE, Due.NONE, x -> x.wanted(7, 7));
    }

    // ---- 20

    private static void reachAtTheEnds() {
        ShortCut x = line(5);
        for (int m = 0; m <= 8; m++) {
            int spots = Math.min(m + 1, 8);
            due.is("20 from 0 in " + m, x.reach(0, m), (1 << spots) - 1);
            due.is("20 from 7 in " + m, x.reach(7, m), 255 & ~((1 << 8 - spots) - 1));
        }
        due.is("20 all", x.reach(3, 999), 255);
        ShortCut y = new ShortCut();
        for (int s = 0; s < 8; s++) {
            due.is("20 itself", y.reach(s, 0), 1 << s);
            due.is("20 itself alone", y.reach(s, 999), 1 << s);
        }
        y.bit(0, 0, 1, 1);
        Due.putText(y, "take 999");
        due.is("20 999 in 998", y.reach(0, 998), 1);
        due.is("20 999 in 999", y.reach(0, 999), 3);
        y.bit(5, 1, 2, 1);
        due.is("20 1000 in 999", y.reach(0, 999), 3);
        Due.putText(y, "take 998");
        due.is("20 999 in 999, by two", y.reach(0, 999), 7);
        y.bit(1, 0, 7, 91);
        due.is("20 not by barred ones", y.reach(7, 999), 128);
    }

    private static void reachRefuses() {
        edges.badOutside("20 m", 0, 999, v -> x -> x.reach(0, v));
    }

    // ---- 21

    private static void everAtTheEnds() {
        ShortCut x = slower(38);
        due.is("21 in 1", x.ever(0, 1, 1), 1);
        due.is("21 in 39", x.ever(0, 1, 39), 1);
        due.is("21 in 40, by the last one", x.ever(0, 1, 40), 3);
        due.is("21 in 40, by none", slower(39).ever(0, 1, 40), 1);
        due.is("21 to itself", x.ever(7, 7, 40), 0);
        due.is("21 no way", x.ever(0, 7, 40), 0);
        ShortCut y = new ShortCut();
        for (int i = 0; i < 14; i++) {
            y.bit(1, 0, 7, 99);
        }
        due.is("21 all 14", y.ever(7, 0, 1), (1 << 14) - 1);
        for (int i = 0; i < 13; i++) {
            y.set(i, 5, 999);
        }
        y.turns(13, 5);
        due.is("21 the last alone", y.ever(7, 0, 1), 1 << 13);
    }

    private static void everRefuses() {
        edges.badOutside("21 n", 1, 40, v -> x -> x.ever(0, 1, v));
        edges.badOutside("21 n, to itself", 1, 40, v -> x -> x.ever(3, 3, v));
    }

    // ---- 22

    private static void wrongAtTheEnds() {
        ShortCut x = new ShortCut();
        for (int i = 0; i < 14; i++) {
            x.bit(2, 0, 1, 1);
        }
        x.rule(0, 1);
        Due.putText(x, "take 999");
        x.sheet(0, 1, 24);
        due.is("22 all 0", x.wrong(0), 14 * 1998);
        for (int i = 0; i < 24; i++) {
            x.mark(0, i, -99999);
        }
        due.is("22 as wrong as there is", x.wrong(0), 14 * (99999 + 1998) + 10 * 99999);
        for (int i = 0; i < 24; i++) {
            x.mark(0, i, i < 14 ? 1998 : 0);
        }
        due.is("22 not wrong", x.wrong(0), 0);
        x.mark(0, 13, 1997);
        due.is("22 one too few", x.wrong(0), 1);
        x.mark(0, 13, 1999);
        due.is("22 one too many", x.wrong(0), 1);
        for (int i = 0; i < 24; i++) {
            x.mark(0, i, Due.NONE);
        }
        due.is("22 no numbers at all", x.wrong(0), 0);
        x.sheet(3, 0, 1);
        x.mark(3, 0, -32768);
        due.is("22 the least short", x.wrong(3), 32768 + 1998);
        x.sheet(1, 0, 0);
        due.is("22 no places", x.wrong(1), 0);
    }

    private static void wrongBeyondAllBits() {
        ShortCut x = new ShortCut();
        x.sheet(0, 0, 3);
        x.mark(0, 0, 5);
        x.mark(0, 1, -6);
        x.mark(0, 2, 7);
        due.is("22 beyond all, no BITS", x.wrong(0), 18);
        x.bit(5, 0, 1, 9);
        due.is("22 beyond 0", x.wrong(0), 4 + 6 + 7);
        x.bit(5, 0, 1, 9);
        due.is("22 beyond 1", x.wrong(0), 4 + 15 + 7);
        x.bit(5, 0, 1, 9);
        due.is("22 none beyond", x.wrong(0), 4 + 15 + 2);
        x.bit(5, 0, 1, 9);
        due.is("22 BITS beyond the SHEET", x.wrong(0), 4 + 15 + 2);
    }

    private static void wrongRefuses() {
        edges.badOutside("22 sheet", 0, 3, v -> x -> x.wrong(v));
        for (int s = 0; s < 4; s++) {
            int sheet = s;
            edges.refused("22 MISSING", Edges.BARE, Due.NOTHING, x -> x.wrong(sheet));
        }
        edges.refused("22 MISSING", Edges.PART, Due.NOTHING, x -> x.wrong(2));
    }

    // ---- 23

    private static void fineIs(String e, int want) {
        ShortCut x = new ShortCut();
        due.is("26 fine " + e, Due.putText(x, "fine " + e), 0);
        due.is("23 fine " + e, x.fine(), want);
    }

    private static void fineAtTheEnds() {
        fineIs("m", 0);
        fineIs("w", 0);
        fineIs("0-1", -1);
        fineIs("4096*4096*128", MIN);
        fineIs("4096*4096*128-1", MAX);
        fineIs("9999*9999*9", 899820009);
        ShortCut x = new ShortCut();
        due.is("23 without a text", x.fine(), 0);
        x.bit(5, 0, 1, 7);
        x.walk(0, 1);
        due.is("23 without a text", x.fine(), 7);
        x.keep();
        Due.putText(x, "fine w");
        due.is("23 by a text", x.fine(), 1);
        x.back();
        due.is("23 without it again", x.fine(), 7);
    }
}
