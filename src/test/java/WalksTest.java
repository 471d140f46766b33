/** Promises 10 to 13. */
public final class WalksTest {
    private static final Due due = new Due();

    public static void main(String[] args) {
        walk();
        leastFirstBit();
        barred();
        longest();
        turnsTwice();
        knowsAtOnce();
        most();
        latest();
        tried();
        hush();
        due.end("WalksTest");
    }

    private static void walk() {
        ShortCut x = new ShortCut();
        x.bit(0, 0, 1, 30);
        x.bit(1, 2, 1, 12);
        x.bit(5, 0, 2, 50);
        due.is("10 by guesses the road", x.walk(0, 2), 50);
        due.is("10 SAID", x.told(2, 5), 50);
        due.is("10 TRODDEN", x.told(2, 4), 1);
        due.is("10 round is thought less (20 + 20)", x.walk(0, 2), 42);
        due.is("10 SAID is what it took", x.told(1, 5), 12);
        due.is("10 and then it is trodden", x.told(1, 6), 11);
        due.is("10 next time less by 1", x.walk(2, 0), 41);
        due.is("10 WALKS", x.count(1), 3);
        due.is("10 SPENT", x.count(2), 133);
        due.is("10 to itself", x.walk(7, 7), 0);
        due.is("10 WALKS", x.count(1), 4);
        due.is("10 from below", x.walk(-1, 0), Due.BAD);
        due.is("10 from above", x.walk(8, 0), Due.BAD);
        due.is("10 to below", x.walk(0, -1), Due.BAD);
        due.is("10 to above", x.walk(0, 8), Due.BAD);
        due.is("10 refused are none", x.count(1), 4);
        due.is("10 the latest stays", x.latest(2), 7);
    }

    private static void leastFirstBit() {
        ShortCut x = new ShortCut();
        x.bit(0, 3, 4, 5);
        x.bit(0, 0, 3, 7);
        x.bit(0, 0, 4, 9);
        x.set(0, 5, 10);
        x.set(1, 5, 10);
        x.set(2, 5, 20);
        due.is("10 of ways that are alike the least first bit", x.walk(0, 4), 12);
        due.is("10 tried", x.tried(0), 1);
        due.is("10 tried", x.tried(1), 0);
        ShortCut y = new ShortCut();
        y.bit(0, 0, 1, 3);
        y.bit(0, 1, 0, 2);
        due.is("10 of two alike the first", y.walk(0, 1), 3);
        due.is("10 from the other end", y.walk(1, 0), 3);
        y.set(0, 5, 21);
        due.is("10 the one thought less", y.walk(0, 1), 2);
    }

    private static void barred() {
        ShortCut x = new ShortCut();
        x.bit(4, 0, 1, 10);
        x.bit(1, 0, 1, 91);
        x.rule(0, 1);
        due.is("10 both are barred", x.walk(0, 1), 2);
        due.is("10 STUCK", x.latest(3), 1);
        due.is("10 where it was", x.latest(2), 0);
        due.is("10 nothing is said", x.told(0, 5), Due.NONE);
        due.is("10 nor trodden", x.told(1, 4), 0);
        due.is("10 SPENT", x.count(2), 2);
        due.is("10 it finds out anew each time", x.walk(1, 0), 2);
        x.rule(0, 0);
        due.is("10 open when dry", x.walk(1, 0), 10);
        due.is("10 at the goal", x.latest(3), 0);
    }

    /**
     * The line 0 .. 6, and barred bits to 7 from both of its ends, each thought better than the next:
     * the walker turns at every one. No walk has more tries than this one, so none is ever LOST.
     */
    private static void longest() {
        ShortCut x = new ShortCut();
        for (int i = 0; i < 6; i++) {
            x.bit(0, i, i + 1, 1);
            x.set(i, 5, 1);
        }
        int[] said = {1, 10, 20, 30, 40, 50, 60, 70};
        for (int i = 0; i < 8; i++) {
            x.bit(1, i % 2 == 0 ? 6 : 7, i % 2 == 0 ? 7 : 0, 91);
            x.set(6 + i, 5, said[i]);
        }
        due.is("10 there and back", x.walk(0, 7), 56);
        due.is("11 tries", x.latest(1), 56);
        due.is("11 where", x.latest(2), 0);
        due.is("11 STUCK", x.latest(3), 1);
        due.is("12 first", x.tried(0), 0);
        due.is("12 first barred", x.tried(6), 6);
        due.is("12 first on the way back", x.tried(7), 5);
        due.is("12 last", x.tried(55), 13);
        due.is("12 no more", x.tried(56), Due.NONE);
        due.is("12 beyond all tries", x.tried(60), Due.NONE);
        due.is("12 far beyond", x.tried(Integer.MAX_VALUE), Due.NONE);
        due.is("10 TRODDEN", x.told(3, 4), 8);
        due.is("10 all TRODDEN", x.count(5), 48);
        due.is("10 SAID of a barred one stays", x.told(13, 5), 70);
        due.is("13 of 14", x.hush(), 14);
        due.is("14 with 14 bits", x.best(0, 6), 6);
        due.is("18 with 14 bits, four barred ones first (by guesses 40 are less than 120)", x.look(0, 6, 1), 4 + 6);
        due.is("19 with 14 bits", x.wanted(0, 6), 0);
    }

    /** A walk that ends at the goal by its last bit, though all others are found barred. */
    private static void turnsTwice() {
        ShortCut x = new ShortCut();
        x.bit(4, 0, 1, 5);
        x.bit(4, 1, 2, 5);
        x.bit(5, 0, 1, 40);
        x.bit(5, 1, 2, 50);
        x.rule(0, 1);
        due.is("10 found, round, found, round", x.walk(0, 2), 92);
        int[] tried = {0, 2, 1, 3};
        for (int i = 0; i < 4; i++) {
            due.is("12 tried(" + i + ")", x.tried(i), tried[i]);
        }
        due.is("10 what was said of streams is nothing", x.count(6), 2);
        due.is("10 so it tries them again", x.walk(0, 2), 92);
    }

    /** Behind bit 0 stands a barred stream: from there on by 2 and 3, or back by 0 and then the road. */
    private static ShortCut fork(int firstLong, int saidOn, int saidRoad) {
        ShortCut x = new ShortCut();
        x.bit(0, 0, 1, firstLong);
        x.bit(4, 1, 3, 5);
        x.bit(0, 1, 2, 7);
        x.bit(0, 2, 3, 8);
        x.bit(5, 0, 3, 40);
        x.set(2, 5, saidOn);
        x.set(3, 5, saidOn);
        x.set(4, 5, saidRoad);
        x.rule(0, 1);
        return x;
    }

    private static void knowsAtOnce() {
        ShortCut x = fork(90, 50, 41);
        due.is("10 there, barred, on (50 and 50 are less than 90 and 41)", x.walk(0, 3), 90 + 1 + 7 + 8);
        due.is("12 on", x.tried(2), 2);
        ShortCut y = fork(5, 30, 50);
        due.is("10 there, barred, back (5 and 50 are less than 30 and 30)", y.walk(0, 3), 5 + 1 + 5 + 40);
        due.is("12 back", y.tried(2), 0);
    }

    private static void most() {
        ShortCut x = new ShortCut();
        x.bit(2, 0, 1, 99);
        x.rule(0, 1);
        x.set(0, 4, 999);
        Due.putText(x, "take 999");
        due.is("10 minutes", x.walk(0, 1), 1998);
        due.is("10 SAID 999 at most", x.told(0, 5), 999);
        due.is("10 TRODDEN 999 at most", x.told(0, 4), 999);
    }

    private static void latest() {
        ShortCut x = new ShortCut();
        for (int what = 0; what < 4; what++) {
            due.is("11 none", x.latest(what), Due.NONE);
        }
        due.is("11 BAD stands ahead of NONE", x.latest(-1), Due.BAD);
        due.is("11 BAD stands ahead of NONE", x.latest(4), Due.BAD);
        x.bit(0, 0, 1, 30);
        x.bit(0, 1, 2, 31);
        x.walk(0, 2);
        int[] all = {61, 2, 2, 0};
        for (int what = 0; what < 4; what++) {
            due.is("11 latest(" + what + ")", x.latest(what), all[what]);
        }
        x.behind(0, 1, 3);
        x.same(0, 1);
        x.look(0, 1, 0);
        x.ever(0, 1, 3);
        x.loses(0, 1);
        due.is("11 thought walks are none", x.latest(0), 61);
        due.is("11 thought walks are none", x.count(1), 1);
        x.walk(0, 7);
        due.is("11 STUCK at once", x.latest(3), 1);
        due.is("11 no tries", x.latest(1), 0);
        x.walk(5, 5);
        due.is("11 at the goal at once", x.latest(3), 0);
        due.is("11 there", x.latest(2), 5);
        due.is("11 below", x.latest(-1), Due.BAD);
        due.is("11 above", x.latest(4), Due.BAD);
    }

    private static void tried() {
        ShortCut x = new ShortCut();
        due.is("12 none", x.tried(0), Due.NONE);
        due.is("12 BAD stands ahead of NONE", x.tried(-1), Due.BAD);
        due.is("12 far below", x.tried(Integer.MIN_VALUE), Due.BAD);
        x.bit(0, 0, 1, 30);
        x.bit(0, 1, 2, 31);
        x.walk(2, 0);
        due.is("12 first", x.tried(0), 1);
        due.is("12 second", x.tried(1), 0);
        due.is("12 not so many", x.tried(2), Due.NONE);
        x.walk(0, 1);
        due.is("12 of the latest alone", x.tried(0), 0);
        due.is("12 of the latest alone", x.tried(1), Due.NONE);
    }

    private static void hush() {
        ShortCut x = new ShortCut();
        due.is("13 no bits", x.hush(), 0);
        x.bit(0, 0, 1, 30);
        x.bit(0, 1, 2, 31);
        x.bit(0, 1, 2, 32);
        due.is("13 nothing", x.hush(), 0);
        x.set(0, 5, 0);
        x.set(2, 5, 999);
        due.is("13 of two", x.hush(), 2);
        for (int i = 0; i < 3; i++) {
            due.is("13 told", x.told(i, 5), Due.NONE);
        }
        due.is("13 nothing any more", x.hush(), 0);
        x.walk(0, 2);
        due.is("13 walks say", x.hush(), 2);
        due.is("13 TRODDEN stays", x.count(5), 2);
    }
}
