/** Promises 14 to 23. */
public final class WillBeTest {
    private static final Due due = new Due();

    public static void main(String[] args) {
        best();
        loses();
        behind();
        same();
        neverTheSame();
        look();
        wanted();
        reach();
        ever();
        wrong();
        fine();
        nothingChanges();
        due.end("WillBeTest");
    }

    /** 0 - 1 - 2 - 3 in 30, 12, 25; 0 - 3 by a road of 60; a stream 1 - 3 of 4. */
    private static ShortCut land() {
        ShortCut x = new ShortCut();
        x.bit(0, 0, 1, 30);
        x.bit(0, 1, 2, 12);
        x.bit(0, 2, 3, 25);
        x.bit(5, 0, 3, 60);
        x.bit(4, 1, 3, 4);
        return x;
    }

    private static void best() {
        ShortCut x = land();
        due.is("14 by the stream", x.best(0, 3), 34);
        due.is("14 and back", x.best(3, 0), 34);
        due.is("14 to itself", x.best(5, 5), 0);
        due.is("14 no way", x.best(0, 5), Due.NONE);
        x.rule(0, 1);
        due.is("14 wet: the road", x.best(0, 3), 60);
        due.is("14 wet", x.best(1, 3), 37);
        x.set(0, 3, 22);
        due.is("14 wet: round", x.best(0, 3), 59);
        x.set(3, 5, 1);
        due.is("14 what was SAID is nothing to it", x.best(0, 3), 59);
        x.bit(1, 0, 5, 91);
        due.is("14 barred", x.best(0, 5), Due.NONE);
        refusesSpots("14 best", x::best);
    }

    private interface OfSpots {
        int of(int from, int to);
    }

    private static void refusesSpots(String name, OfSpots call) {
        due.is(name + " from below", call.of(-1, 0), Due.BAD);
        due.is(name + " from above", call.of(8, 0), Due.BAD);
        due.is(name + " to below", call.of(0, -1), Due.BAD);
        due.is(name + " to above", call.of(0, 8), Due.BAD);
        due.is(name + " greatest", call.of(7, 7) == Due.BAD ? 1 : 0, 0);
    }

    private static void loses() {
        ShortCut x = land();
        due.is("15 the road is guessed best", x.loses(0, 3), 26);
        due.is("15 nothing to lose", x.loses(1, 3), 0);
        due.is("15 to itself", x.loses(4, 4), 0);
        due.is("15 no way", x.loses(0, 5), Due.NONE);
        x.set(3, 5, 60);
        due.is("15 by guesses then the stream", x.loses(0, 3), 0);
        x.rule(0, 1);
        due.is("15 30, 1, then 12 and 25 (30 + 60 are thought more than 20 + 20)", x.loses(0, 3), 8);
        refusesSpots("15 loses", x::loses);
    }

    private static void behind() {
        ShortCut x = land();
        due.is("16 behind none", x.behind(0, 3, 0), 60);
        due.is("16 behind one", x.behind(0, 3, 1), 34);
        due.is("16 behind 40", x.behind(0, 3, 40), 34);
        due.is("16 below", x.behind(0, 3, -1), Due.BAD);
        due.is("16 above", x.behind(0, 3, 41), Due.BAD);
        refusesSpots("16 behind", (f, t) -> x.behind(f, t, 1));
        ShortCut y = new ShortCut();
        y.bit(1, 0, 1, 50);
        due.is("16 a track is trodden", y.behind(0, 1, 7), 43);
        due.is("16 a track is trodden", y.behind(0, 1, 40), 10);
        due.is("16 no way", y.behind(0, 2, 40), 0);
    }

    private static void same() {
        ShortCut x = land();
        due.is("17 60, 34, 34", x.same(0, 3), 2);
        x.walk(0, 3);
        due.is("17 34, 34", x.same(0, 3), 1);
        due.is("17 to itself", x.same(6, 6), 1);
        due.is("17 no way", x.same(0, 6), 1);
        refusesSpots("17 same", x::same);
        ShortCut y = new ShortCut();
        y.bit(1, 0, 1, 40);
        due.is("17 40, 39 .. 1, 1", y.same(0, 1), 40);
        y.set(0, 3, 41);
        due.is("17 not by then", y.same(0, 1), Due.NONE);
        y.set(0, 4, 1);
        due.is("17 40 again", y.same(0, 1), 40);
    }

    /** The same minutes by other bits are not the same. */
    private static void neverTheSame() {
        ShortCut x = new ShortCut();
        x.bit(0, 0, 1, 25);
        x.bit(0, 0, 1, 25);
        due.is("17 25 by 0, 25 by 1, 25 by 0, 25 by 0", x.same(0, 1), 3);
        ShortCut y = new ShortCut();
        y.bit(0, 0, 1, 5);
        due.is("17 the first two", y.same(0, 1), 1);
    }

    private static void look() {
        ShortCut x = land();
        due.is("18 the road is seen to be 60", x.look(0, 3, 0), 3);
        due.is("18 then 34", x.look(0, 3, 1), 34);
        due.is("18 all are alike: the least", x.look(1, 3, 0), 0);
        due.is("18 all are alike", x.look(1, 3, 1), 4);
        due.is("18 to itself", x.look(2, 2, 0), 0);
        due.is("18 to itself", x.look(2, 2, 1), 0);
        due.is("18 no way", x.look(2, 7, 1), 0);
        due.is("18 what below", x.look(0, 3, -1), Due.BAD);
        due.is("18 what above", x.look(0, 3, 2), Due.BAD);
        refusesSpots("18 look", (f, t) -> x.look(f, t, 0));
        ShortCut y = new ShortCut();
        y.bit(0, 0, 1, 50);
        y.bit(0, 0, 1, 10);
        y.bit(0, 0, 1, 40);
        y.set(0, 5, 15);
        y.set(2, 5, 16);
        due.is("18 what nobody thought of", y.look(0, 1, 0), 1);
        due.is("18 what nobody thought of", y.look(0, 1, 1), 10);
        lookSaysNoMore();
        ShortCut none = new ShortCut();
        due.is("18 no bits", none.look(0, 1, 0), Due.NONE);
        due.is("18 no bits", none.look(0, 1, 1), Due.NONE);
        due.is("18 BAD stands ahead of NONE", none.look(0, 1, 2), Due.BAD);
    }

    /** 999 are SAID of 1998, and round is thought to be 1200: no look helps. */
    private static void lookSaysNoMore() {
        ShortCut x = new ShortCut();
        x.bit(2, 0, 1, 9);
        x.bit(5, 0, 2, 50);
        x.bit(5, 2, 1, 50);
        x.set(1, 5, 600);
        x.set(2, 5, 600);
        x.rule(0, 1);
        Due.putText(x, "take 999");
        due.is("18 999 at most", x.look(0, 1, 1), 1998);
        due.is("18 999 at most", x.look(0, 1, 0), 0);
        x.set(1, 5, 499);
        x.set(2, 5, 499);
        due.is("18 round is less", x.look(0, 1, 1), 100);
    }

    private static void wanted() {
        ShortCut x = land();
        due.is("19 without 0: 60, without 4: 60", x.wanted(0, 3), 0);
        x.set(3, 3, 99);
        due.is("19 without 0: 99, without 4: 67", x.wanted(0, 3), 0);
        due.is("19 without 4: 37", x.wanted(1, 3), 4);
        due.is("19 to itself: all alike", x.wanted(3, 3), 0);
        due.is("19 no way: all alike", x.wanted(0, 7), 0);
        x.bit(2, 3, 6, 40);
        due.is("19 the only way", x.wanted(0, 6), 5);
        refusesSpots("19 wanted", x::wanted);
        due.is("19 no bits", new ShortCut().wanted(0, 1), Due.NONE);
        Due.putText(x, "take 999");
        x.rule(0, 1);
        due.is("19 no way is 999, less than a long one", x.wanted(1, 6), 0);
        ShortCut y = new ShortCut();
        y.bit(5, 0, 1, 9);
        y.bit(0, 0, 1, 9);
        y.bit(5, 1, 2, 9);
        due.is("19 without 2 no way", y.wanted(0, 2), 2);
        Due.putText(y, "take 999");
        due.is("19 without 0 it is 1008, without 2 it is 999", y.wanted(0, 2), 0);
        ShortCut z = new ShortCut();
        z.bit(5, 1, 2, 1);
        z.bit(5, 0, 1, 1);
        z.bit(0, 0, 1, 1);
        Due.putText(z, "take 999");
        due.is("19 without 0 it is 999, without 1 it is 1000", z.wanted(0, 2), 1);
        Due.putText(z, "take 998");
        due.is("19 999 both", z.wanted(0, 2), 0);
    }

    private static void reach() {
        ShortCut x = land();
        due.is("20 itself", x.reach(0, 0), 1);
        due.is("20 29", x.reach(0, 29), 1);
        due.is("20 30", x.reach(0, 30), 1 + 2);
        due.is("20 34", x.reach(0, 34), 1 + 2 + 8);
        due.is("20 41", x.reach(0, 41), 1 + 2 + 8);
        due.is("20 42", x.reach(0, 42), 1 + 2 + 4 + 8);
        due.is("20 999", x.reach(0, 999), 15);
        due.is("20 alone", x.reach(7, 999), 128);
        due.is("20 m below", x.reach(0, -1), Due.BAD);
        due.is("20 m above", x.reach(0, 1000), Due.BAD);
        due.is("20 from below", x.reach(-1, 0), Due.BAD);
        due.is("20 from above", x.reach(8, 0), Due.BAD);
        x.rule(0, 1);
        due.is("20 wet", x.reach(1, 36), 1 + 2 + 4);
        due.is("20 wet", x.reach(1, 37), 15);
    }

    private static void ever() {
        ShortCut x = land();
        due.is("21 the road", x.ever(0, 3, 1), 8);
        due.is("21 then by the stream", x.ever(0, 3, 2), 8 + 1 + 16);
        due.is("21 40", x.ever(0, 3, 40), 8 + 1 + 16);
        due.is("21 no way", x.ever(0, 7, 40), 0);
        due.is("21 to itself", x.ever(3, 3, 40), 0);
        due.is("21 below", x.ever(0, 3, 0), Due.BAD);
        due.is("21 above", x.ever(0, 3, 41), Due.BAD);
        refusesSpots("21 ever", (f, t) -> x.ever(f, t, 1));
        x.rule(0, 1);
        due.is("21 tries of barred bits, too", x.ever(1, 3, 1), 16 + 1 + 8);
        ShortCut y = new ShortCut();
        for (int i = 0; i < 14; i++) {
            y.bit(1, 0, 1, 99);
        }
        due.is("21 all", y.ever(0, 1, 1), 16383);
    }

    private static void wrong() {
        ShortCut x = land();
        x.sheet(0, 0, 24);
        due.is("22 all 0", x.wrong(0), 30 + 12 + 25 + 60 + 4);
        x.mark(0, 0, 31);
        x.mark(0, 1, 10);
        x.mark(0, 2, 25);
        x.mark(0, 3, -32768);
        x.mark(0, 4, 4);
        due.is("22 signs left out", x.wrong(0), 1 + 2 + 0 + 32828 + 0);
        x.mark(0, 5, -7);
        x.mark(0, 23, 32767);
        due.is("22 beyond all bits", x.wrong(0), 1 + 2 + 32828 + 7 + 32767);
        x.sheet(1, 1, 6);
        for (int i = 0; i < 6; i++) {
            x.mark(1, i, Due.NONE);
        }
        due.is("22 no numbers", x.wrong(1), 0);
        x.mark(1, 4, 99999);
        x.mark(1, 5, -99999);
        due.is("22 floats", x.wrong(1), 99995 + 99999);
        x.sheet(2, 0, 0);
        due.is("22 empty", x.wrong(2), 0);
        due.is("22 missing", x.wrong(3), Due.NOTHING);
        due.is("22 below", x.wrong(-1), Due.BAD);
        due.is("22 above", x.wrong(4), Due.BAD);
    }

    private static void fine() {
        ShortCut x = land();
        due.is("23 nothing", x.fine(), 0);
        x.walk(0, 3);
        x.walk(0, 3);
        due.is("23 SPENT", x.fine(), 94);
        Due.putText(x, "fine m*w-1000");
        due.is("23 by a text", x.fine(), 94 * 2 - 1000);
        Due.putText(x, "fine 9999*9999*9999");
        due.is("23 not held", x.fine(), (int) (9999L * 9999 * 9999));
        Due.putText(x, "take 1");
        due.is("23 another key", x.fine(), (int) (9999L * 9999 * 9999));
    }

    private static void nothingChanges() {
        ShortCut x = land();
        x.walk(0, 3);
        String ahead = all(x);
        x.best(0, 3);
        x.loses(0, 3);
        x.behind(0, 2, 40);
        x.same(0, 3);
        x.look(0, 3, 1);
        x.wanted(0, 3);
        x.reach(0, 99);
        x.ever(0, 3, 40);
        x.fine();
        due.is("3 all this is only thought", ahead.equals(all(x)) ? 1 : 0, 1);
    }

    private static String all(ShortCut x) {
        StringBuilder all = new StringBuilder();
        for (int bit = 0; bit < x.count(0); bit++) {
            for (int what = 0; what < 10; what++) {
                all.append(x.told(bit, what)).append(' ');
            }
        }
        for (int what = 0; what <= 10; what++) {
            all.append(x.count(what)).append(' ');
        }
        for (int what = 0; what < 4; what++) {
            all.append(x.latest(what)).append(' ').append(x.tried(what)).append(' ');
        }
        return all.toString();
    }
}
