/** The boundary cases of promises 10 to 13, and of part 2 of the terms. */
public final class WalksEdgesTest {
    private static final int MIN = Integer.MIN_VALUE;
    private static final int MAX = Integer.MAX_VALUE;
    private static final Due due = new Due();
    private static final Edges edges = new Edges(due);

    public static void main(String[] args) {
        everySpot();
        walkRefuses();
        toItself();
        noWay();
        ofSeveralTheLeastFirst();
        leastTogether();
        waysOfAllLengths();
        barredTakesOneMinute();
        foundInThisWalkAlone();
        stuckFarOff();
        saidIsHeld();
        saidThenTrodden();
        troddenIsHeld();
        thinksAtOnce();
        neverLost();
        walksAndSpent();
        latestNone();
        latestRefuses();
        latestOfTheLatest();
        triedNone();
        triedRefuses();
        triedAtTheEnds();
        hushAtTheEnds();
        due.end("WalksEdgesTest");
    }

    // ---- 10

    /** All eight spots in a line, each bit 1 long. */
    private static ShortCut line() {
        ShortCut x = new ShortCut();
        for (int i = 0; i < 7; i++) {
            x.bit(5, i, i + 1, 1);
        }
        return x;
    }

    private static void everySpot() {
        for (int from = 0; from < 8; from++) {
            for (int to = 0; to < 8; to++) {
                ShortCut x = line();
                String name = "10 from " + from + " to " + to;
                due.is(name, x.walk(from, to), Math.abs(from - to));
                due.is(name + ", where it ended", x.latest(2), to);
                due.is(name + ", first", x.tried(0), from == to ? Due.NONE : from < to ? from : from - 1);
            }
        }
    }

    private static void walkRefuses() {
        edges.badOutside("10 from", 0, 7, v -> x -> x.walk(v, 0));
        edges.badOutside("10 to", 0, 7, v -> x -> x.walk(0, v));
        edges.badOutside("10 from and to", 0, 7, v -> x -> x.walk(v, v));
    }

    private static void isLatest(String name, ShortCut x, int minutes, int tries, int where, int how) {
        int[] all = {minutes, tries, where, how};
        for (int what = 0; what < 4; what++) {
            due.is(name + ", latest(" + what + ")", x.latest(what), all[what]);
        }
    }

    private static void toItself() {
        ShortCut x = line();
        due.is("10 to itself", x.walk(3, 3), 0);
        isLatest("10 to itself", x, 0, 0, 3, 0);
        due.is("10 a WALK all the same", x.count(1), 1);
        due.is("10 nothing TRODDEN", x.count(5), 0);
        due.is("10 nothing SAID", x.count(6), 0);
        due.is("10 no try", x.tried(0), Due.NONE);
    }

    private static void noWay() {
        ShortCut x = new ShortCut();
        due.is("10 no BITS", x.walk(0, 7), 0);
        isLatest("10 no BITS", x, 0, 0, 0, 1);
        due.is("10 no BITS, to itself", x.walk(7, 7), 0);
        isLatest("10 the goal is asked for first", x, 0, 0, 7, 0);
        x.bit(0, 0, 1, 5);
        due.is("10 no BITS there", x.walk(0, 7), 0);
        isLatest("10 no BITS there", x, 0, 0, 0, 1);
        due.is("10 no BITS here", x.walk(7, 0), 0);
        isLatest("10 no BITS here", x, 0, 0, 7, 1);
        due.is("10 WALKS", x.count(1), 4);
        due.is("10 SPENT", x.count(2), 0);
    }

    /** The same minutes are thought of both ways; the first BITS stand in either order. */
    private static void ofSeveralTheLeastFirst() {
        for (int first = 0; first < 2; first++) {
            ShortCut x = new ShortCut();
            x.bit(5, 0, first == 0 ? 1 : 2, 3);
            x.bit(5, 0, first == 0 ? 2 : 1, 4);
            x.bit(5, 1, 7, 5);
            x.bit(5, 2, 7, 6);
            due.is("10 of several", x.walk(0, 7), first == 0 ? 3 + 5 : 3 + 6);
            due.is("10 of several", x.tried(0), 0);
        }
        ShortCut y = new ShortCut();
        for (int i = 0; i < 14; i++) {
            y.bit(5, i % 2 * 7, 7 - i % 2 * 7, 50 + i);
        }
        due.is("10 of 14 the first", y.walk(0, 7), 50);
        for (int i = 0; i < 13; i++) {
            y.set(i, 5, 21);
        }
        due.is("10 the last is thought less", y.walk(0, 7), 63);
        y.set(13, 5, 21);
        due.is("10 now all are alike again", y.walk(7, 0), 50);
    }

    /** One more or less in what is thought of one way decides. */
    private static void leastTogether() {
        int[] first = {1, 0, 0};
        for (int more = -1; more <= 1; more++) {
            ShortCut x = new ShortCut();
            x.bit(5, 0, 7, 50);
            x.bit(5, 0, 1, 10);
            x.bit(5, 1, 7, 10);
            x.set(0, 5, 500);
            x.set(1, 5, 250);
            x.set(2, 5, 250 + more);
            x.walk(0, 7);
            due.is("10 500 or 500 and " + more, x.tried(0), first[more + 1]);
        }
        ShortCut y = new ShortCut();
        y.bit(5, 0, 7, 50);
        y.bit(5, 0, 1, 10);
        y.bit(5, 1, 7, 10);
        y.set(0, 5, 2);
        y.set(1, 5, 0);
        y.set(2, 5, 0);
        y.walk(0, 7);
        due.is("10 THINKS are 1 at least: 2, or 1 and 1", y.tried(0), 0);
    }

    private static void waysOfAllLengths() {
        ShortCut x = line();
        x.bit(5, 0, 7, 99);
        for (int i = 0; i < 7; i++) {
            x.set(i, 5, 142);
        }
        x.set(7, 5, 995);
        due.is("10 seven BITS, thought 994", x.walk(0, 7), 7);
        for (int i = 0; i < 7; i++) {
            x.set(i, 5, 999);
        }
        x.set(7, 5, 999);
        due.is("10 one BIT, thought 999", x.walk(0, 7), 99);
        x.turns(7, 1);
        x.set(7, 5, 1);
        due.is("10 barred: seven BITS, thought 6993", x.walk(0, 7), 8);
    }

    private static void barredTakesOneMinute() {
        ShortCut x = new ShortCut();
        x.bit(4, 0, 1, 99);
        x.rule(0, 1);
        due.is("10 found BARRED", x.walk(0, 1), 1);
        isLatest("10 found BARRED", x, 1, 1, 0, 1);
        due.is("10 nothing SAID of it", x.told(0, 5), Due.NONE);
        due.is("10 not TRODDEN", x.told(0, 4), 0);
        x.set(0, 5, 70);
        x.walk(1, 0);
        isLatest("10 from the other end", x, 1, 1, 1, 1);
        due.is("10 what was SAID stays", x.told(0, 5), 70);
        due.is("10 SPENT", x.count(2), 2);
        ShortCut all = new ShortCut();
        for (int i = 0; i < 14; i++) {
            all.bit(1 + i % 2 * 2, 0, 1, 91);
        }
        due.is("10 all 14 are found", all.walk(0, 1), 14);
        isLatest("10 all 14 are found", all, 14, 14, 0, 1);
        for (int i = 0; i < 14; i++) {
            due.is("10 in their order", all.tried(i), i);
        }
        all.set(13, 3, 90);
        due.is("10 thirteen are found, the last is open, a PATH of 90", all.walk(0, 1), 13 + 45);
    }

    private static void foundInThisWalkAlone() {
        ShortCut x = new ShortCut();
        x.bit(4, 0, 1, 9);
        x.bit(5, 0, 1, 9);
        x.set(1, 5, 99);
        x.rule(0, 1);
        due.is("10 found, then the road", x.walk(0, 1), 10);
        due.is("10 9 are thought of it now", x.walk(0, 1), 9);
        x.rule(1, 8);
        due.is("10 found anew", x.walk(0, 1), 10);
        due.is("10 found anew, again", x.walk(0, 1), 10);
    }

    /** Stuck where it found out, not where it came from. */
    private static void stuckFarOff() {
        ShortCut x = line();
        x.turns(6, 1);
        x.set(6, 3, 91);
        due.is("10 six and one", x.walk(0, 7), 7);
        isLatest("10 six and one", x, 7, 7, 6, 1);
        due.is("10 TRODDEN", x.count(5), 6);
        due.is("10 SAID", x.count(6), 6);
    }

    private static int saidBehind(int kind, int wet, String take) {
        ShortCut x = new ShortCut();
        x.bit(kind, 0, 1, 99);
        x.rule(0, wet);
        Due.putText(x, take);
        x.walk(0, 1);
        return x.told(0, 5);
    }

    private static void saidIsHeld() {
        due.is("10 SAID 1", saidBehind(0, 0, "take 0"), 1);
        due.is("10 SAID 998", saidBehind(2, 1, "take 499"), 998);
        due.is("10 SAID 999 of 1000", saidBehind(2, 1, "take 500"), 999);
        due.is("10 SAID 999 of 999", saidBehind(0, 0, "take 999"), 999);
        due.is("10 SAID 999 of 1998", saidBehind(2, 1, "take 999"), 999);
        due.is("10 SAID of a ROAD", saidBehind(5, 1, "take 999"), 99);
        ShortCut x = new ShortCut();
        x.bit(2, 0, 1, 1);
        x.rule(0, 1);
        Due.putText(x, "take 999");
        due.is("10 MINUTES are not held", x.walk(0, 1), 1998);
        due.is("10 SPENT is not held", x.count(2), 1998);
    }

    private static void saidThenTrodden() {
        ShortCut x = new ShortCut();
        x.bit(0, 0, 1, 1);
        Due.putText(x, "take 100+t");
        due.is("10 TRODDEN 0", x.walk(0, 1), 100);
        due.is("10 SAID, ahead of TRODDEN", x.told(0, 5), 100);
        due.is("10 TAKES, behind TRODDEN", x.told(0, 6), 101);
        due.is("10 TRODDEN 1", x.walk(0, 1), 101);
    }

    private static void troddenIsHeld() {
        ShortCut x = new ShortCut();
        x.bit(1, 0, 1, 90);
        x.set(0, 4, 997);
        int[] trodden = {998, 999, 999, 999};
        for (int t : trodden) {
            x.walk(0, 1);
            due.is("10 TRODDEN", x.told(0, 4), t);
        }
    }

    /**
     * What a text makes of a bit just walked counts from the next try on: behind bit 0 the stream is found
     * BARRED; on by 3 is thought 304, back by 0 (SAID 1 by now) and on by 2 is thought 302 and that of 0.
     */
    private static int thinksOfTheFirst(int thought) {
        ShortCut x = new ShortCut();
        x.bit(5, 0, 1, 1);
        x.bit(4, 1, 2, 1);
        x.bit(5, 0, 2, 60);
        x.bit(5, 1, 2, 70);
        x.set(2, 5, 2);
        x.set(3, 5, 3);
        x.rule(0, 1);
        Due.putText(x, "think (s=2)*302+(s=3)*304+(s=0)*((k=4)+(k=5)*300)+(s=1)*" + thought);
        return x.walk(0, 2);
    }

    private static void thinksAtOnce() {
        due.is("10 303, back, or 304, on", thinksOfTheFirst(1), 1 + 1 + 1 + 60);
        due.is("10 304, back by the less BIT, or 304, on", thinksOfTheFirst(2), 1 + 1 + 1 + 60);
        due.is("10 305, back, or 304, on", thinksOfTheFirst(3), 1 + 1 + 70);
    }

    /** As long a walk as there is: 56 tries, so none comes to 60. */
    private static ShortCut longest() {
        ShortCut x = new ShortCut();
        for (int i = 0; i < 6; i++) {
            x.bit(5, i, i + 1, 1);
            x.set(i, 5, 1);
        }
        for (int i = 0; i < 8; i++) {
            x.bit(1, i % 2 == 0 ? 6 : 0, 7, 99);
            x.set(6 + i, 5, 1 + 10 * i);
        }
        return x;
    }

    private static void neverLost() {
        ShortCut x = longest();
        due.is("10 56 tries", x.walk(0, 7), 56);
        isLatest("10 56 tries", x, 56, 56, 0, 1);
        ShortCut y = longest();
        y.turns(13, 5);
        due.is("10 56 tries, the last to the goal", y.walk(0, 7), 55 + 99);
        isLatest("10 56 tries, the last to the goal", y, 154, 56, 7, 0);
    }

    private static void walksAndSpent() {
        ShortCut x = line();
        int spent = 0;
        for (int i = 1; i <= 200; i++) {
            spent += x.walk(0, i % 8);
            due.is("10 WALKS", x.count(1), i);
        }
        due.is("10 SPENT", x.count(2), spent);
        due.is("10 SPENT, 25 times 0 .. 7", spent, 25 * 28);
        ShortCut y = new ShortCut();
        for (int i = 0; i < 7; i++) {
            y.bit(2, i, i + 1, 1);
        }
        y.rule(0, 1);
        Due.putText(y, "take 999");
        for (int i = 1; i <= 300; i++) {
            y.walk(0, 7);
        }
        due.is("10 SPENT, as much as there is", y.count(2), 300 * 7 * 1998);
        due.is("23 SPENT, as much as there is", y.fine(), 300 * 7 * 1998);
        due.is("10 TRODDEN, one by one", y.count(5), 300 * 7);
    }

    // ---- 11

    private static void latestNone() {
        for (int what = 0; what < 4; what++) {
            int w = what;
            edges.refused("11 there was none", Edges.BARE, Due.NONE, x -> x.latest(w));
        }
        ShortCut x = new ShortCut();
        x.keep();
        x.walk(0, 0);
        due.is("11 there was one", x.latest(1), 0);
        x.back();
        due.is("11 there was none", x.latest(1), Due.NONE);
        x.walk(8, 0);
        due.is("11 a refused one is none", x.latest(1), Due.NONE);
        x.behind(0, 1, 5);
        due.is("11 a thought one is none", x.latest(1), Due.NONE);
    }

    private static void latestRefuses() {
        edges.badOutside("11 what", 0, 3, v -> x -> x.latest(v));
    }

    private static void latestOfTheLatest() {
        ShortCut x = longest();
        x.walk(0, 7);
        x.walk(0, 1);
        isLatest("11 a short one behind a long one", x, 1, 1, 1, 0);
        due.is("12 a short one behind a long one", x.tried(1), Due.NONE);
        x.walk(4, 4);
        isLatest("11 none of a try", x, 0, 0, 4, 0);
        due.is("12 none of a try", x.tried(0), Due.NONE);
        x.walk(5, 8);
        isLatest("11 a refused one is none", x, 0, 0, 4, 0);
    }

    // ---- 12

    private static void triedNone() {
        int[] all = {0, 1, 59, 60, MAX};
        for (int i : all) {
            edges.refused("12 there was none", Edges.BARE, Due.NONE, x -> x.tried(i));
        }
        edges.refused("12 not so many", Edges.PART, Due.NONE, x -> x.tried(3));
        edges.refused("12 not so many", Edges.FULL, Due.NONE, x -> x.tried(2));
        due.is("12 the last one", Edges.PART.make().tried(2), 1);
        due.is("12 the last one", Edges.FULL.make().tried(1), 8);
    }

    private static void triedRefuses() {
        int[] all = {-1, -2, -256, -65536, MIN, MIN + 1, Due.BAD, Due.NONE};
        for (int i : all) {
            edges.refusedInAll("12 i below 0", Due.BAD, x -> x.tried(i));
        }
    }

    private static void triedAtTheEnds() {
        ShortCut x = longest();
        x.walk(0, 7);
        for (int i = 0; i < 56; i++) {
            int round = i / 7;
            int step = i % 7;
            int bit = step == 6 ? 6 + round : round % 2 == 0 ? step : 5 - step;
            due.is("12 try " + i, x.tried(i), bit);
        }
        int[] beyond = {56, 57, 59, 60, 61, 256, 65536, MAX - 1, MAX};
        for (int i : beyond) {
            due.is("12 not so many: " + i, x.tried(i), Due.NONE);
        }
    }

    // ---- 13

    private static void hushAtTheEnds() {
        ShortCut x = new ShortCut();
        due.is("13 no BITS", x.hush(), 0);
        x.deal(14);
        due.is("13 nothing SAID", x.hush(), 0);
        x.set(13, 5, 0);
        due.is("13 of the last, 0", x.hush(), 1);
        for (int i = 0; i < 14; i++) {
            x.set(i, 5, i == 0 ? 0 : 999);
        }
        due.is("13 of all", x.hush(), 14);
        for (int i = 0; i < 14; i++) {
            due.is("13 nothing then", x.told(i, 5), Due.NONE);
        }
        due.is("13 again", x.hush(), 0);
        ShortCut y = line();
        y.walk(0, 7);
        due.is("13 of those that were walked", y.hush(), 7);
        due.is("13 TRODDEN stays", y.count(5), 7);
        due.is("13 the latest WALK stays", y.latest(0), 7);
        due.is("13 WALKS stay", y.count(1), 1);
    }
}
