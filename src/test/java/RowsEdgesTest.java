/** The boundary cases of promises 38 to 42, and of images. */
public final class RowsEdgesTest {
    private static final int MIN = Integer.MIN_VALUE;
    private static final int MAX = Integer.MAX_VALUE;
    private static final Due due = new Due();
    private static final Edges edges = new Edges(due);

    public static void main(String[] args) {
        tellUpToSixty();
        tellIsFull();
        checkFirstThatIsNot();
        checkFirstThatIsMissing();
        checkOneTooMany();
        checkForgetsWhatWaited();
        checkAtTheEnds();
        checkOfBarredAndItself();
        checkUsesUp();
        checkRefuses();
        checkWithoutImage();
        keepAtTheEnds();
        keepReplaces();
        imageIsApart();
        imageKeepsAll();
        imageKeepsTheLatest();
        imageKeepsNot();
        backAgainAndAgain();
        backWithoutImage();
        countAtTheEnds();
        countRefuses();
        due.end("RowsEdgesTest");
    }

    private static void tell(ShortCut x, int... all) {
        for (int v : all) {
            x.tell(v);
        }
    }

    // ---- 38

    private static void tellUpToSixty() {
        ShortCut x = new ShortCut();
        int[] any = {0, MIN, MAX, Due.FULL, Due.NONE, -1};
        for (int i = 1; i <= 60; i++) {
            due.is("38 the number " + i, x.tell(any[i % 6]), i);
            due.is("42 how many wait", x.count(8), i);
        }
        due.is("38 one more", x.tell(0), Due.FULL);
        due.is("38 and one more", x.tell(MAX), Due.FULL);
        x.check(0, 1, 1);
        due.is("38 from 1 on again", x.tell(0), 1);
    }

    private static void tellIsFull() {
        int[] any = {0, 1, MIN, MAX, Due.NONE};
        for (int v : any) {
            edges.refused("38 FULL", Edges.FULL, Due.FULL, x -> x.tell(v));
        }
    }

    // ---- 39

    /** A track of 90: walk i (from 0 on) takes 90 - i, and TRODDEN is i + 1 behind it. */
    private static ShortCut track() {
        ShortCut x = new ShortCut();
        x.bit(1, 0, 1, 90);
        x.keep();
        return x;
    }

    private static int told(int place) {
        return place % 2 == 0 ? 90 - place / 2 : place / 2 + 1;
    }

    private static void checkFirstThatIsNot() {
        int[] others = {1, -1, MIN, MAX};
        for (int wrong = 0; wrong < 60; wrong++) {
            for (int by : others) {
                ShortCut x = track();
                for (int i = 0; i < 60; i++) {
                    x.tell(told(i) + (i == wrong ? by : 0));
                }
                due.is("39 the first that is not, " + wrong, x.check(0, 1, 30), 1 + wrong);
            }
        }
        ShortCut x = track();
        for (int i = 0; i < 60; i++) {
            x.tell(i < 20 ? told(i) : -1);
        }
        due.is("39 of many that are not the first", x.check(0, 1, 30), 21);
    }

    private static void checkFirstThatIsMissing() {
        for (int many = 0; many < 60; many++) {
            ShortCut x = track();
            for (int i = 0; i < many; i++) {
                x.tell(told(i));
            }
            due.is("39 " + many + " told, the next is missing", x.check(0, 1, 30), 1 + many);
        }
    }

    private static void checkOneTooMany() {
        for (int n = 1; n < 30; n++) {
            ShortCut x = track();
            for (int i = 0; i <= 2 * n; i++) {
                x.tell(told(i));
            }
            due.is("39 of " + n + ", one too many", x.check(0, 1, n), 1 + 2 * n);
            for (int i = 0; i < 60; i++) {
                x.tell(told(i));
            }
            due.is("39 of " + n + ", many too many", x.check(0, 1, n), 1 + 2 * n);
        }
        ShortCut x = track();
        for (int i = 0; i < 60; i++) {
            x.tell(told(i));
        }
        x.tell(0);
        due.is("39 one that was refused is none too many", x.check(0, 1, 30), 0);
    }

    /** What waited for an earlier check is missing at the next one, though it would be right. */
    private static void checkForgetsWhatWaited() {
        for (int many = 0; many < 60; many++) {
            ShortCut x = track();
            for (int i = 0; i < 60; i++) {
                x.tell(told(i));
            }
            due.is("39 right", x.check(0, 1, 30), 0);
            for (int i = 0; i < many; i++) {
                x.tell(told(i));
            }
            due.is("39 then " + many + " told, the next is missing", x.check(0, 1, 30), 1 + many);
        }
    }

    private static void checkAtTheEnds() {
        for (int n = 1; n <= 30; n++) {
            ShortCut x = track();
            for (int i = 0; i < 2 * n; i++) {
                x.tell(told(i));
            }
            due.is("39 of " + n, x.check(0, 1, n), 0);
        }
        ShortCut held = new ShortCut();
        for (int i = 0; i < 14; i++) {
            held.bit(2, 0, 1, 99);
            held.set(i, 4, 999);
        }
        held.rule(0, 1);
        Due.putText(held, "take 999");
        held.keep();
        tell(held, 1998, 14 * 999, 1998, 14 * 999);
        due.is("39 as much as there is", held.check(0, 1, 2), 0);
    }

    private static void checkOfBarredAndItself() {
        ShortCut x = new ShortCut();
        x.keep();
        tell(x, 0, 0);
        due.is("39 no BITS", x.check(0, 7, 1), 0);
        tell(x, 0, 0);
        due.is("39 no BITS, to itself", x.check(7, 7, 1), 0);
        x.bit(1, 0, 7, 91);
        x.set(0, 4, 5);
        x.keep();
        tell(x, 1, 5, 1, 5, 1, 5);
        due.is("39 barred", x.check(0, 7, 3), 0);
        tell(x, 0, 5);
        due.is("39 to itself", x.check(0, 0, 1), 0);
        tell(x, 0, 5, 0, 6);
        due.is("39 to itself nothing is TRODDEN", x.check(7, 7, 2), 4);
    }

    /** None wait then, and nothing else is otherwise, whatever is answered. */
    private static void checkUsesUp() {
        edges.refusedLike("39 one is missing", Edges.PART, Edges.PART_NONE_WAIT, 4, x -> x.check(0, 3, 2));
        edges.refusedLike("39 one too many", Edges.PART, Edges.PART_NONE_WAIT, 3, x -> x.check(0, 3, 1));
        edges.refusedLike("39 the first is not", Edges.PART, Edges.PART_NONE_WAIT, 1, x -> x.check(7, 0, 1));
        edges.refusedLike("39 right", Edges.FULL, Edges.FULL_NONE_WAIT, 0, x -> x.check(0, 5, 30));
        edges.refusedLike("39 too many", Edges.FULL, Edges.FULL_NONE_WAIT, 59, x -> x.check(0, 5, 29));
        edges.refused("39 none wait", Edges.PART_NONE_WAIT, 1, x -> x.check(0, 3, 1));
    }

    private static void checkIsBad(String name, Edges.Call call) {
        edges.refused(name + ", ahead of NO", Edges.BARE, Due.BAD, call);
        edges.refusedLike(name, Edges.PART, Edges.PART_NONE_WAIT, Due.BAD, call);
        edges.refusedLike(name, Edges.FULL, Edges.FULL_NONE_WAIT, Due.BAD, call);
    }

    private static void checkRefuses() {
        for (int v : Edges.outside(0, 7)) {
            checkIsBad("39 from " + v, x -> x.check(v, 0, 1));
            checkIsBad("39 to " + v, x -> x.check(0, v, 1));
            checkIsBad("39 both " + v, x -> x.check(v, v, 1));
        }
        for (int v : Edges.outside(1, 30)) {
            checkIsBad("39 n " + v, x -> x.check(0, 5, v));
            checkIsBad("39 n " + v + ", to itself", x -> x.check(5, 5, v));
        }
    }

    private static void checkWithoutImage() {
        Edges.Scene waiting = () -> {
            ShortCut x = new ShortCut();
            tell(x, 0, 0);
            return x;
        };
        edges.refusedLike("39 NO", waiting, Edges.BARE, Due.NO, x -> x.check(0, 0, 1));
        edges.refusedLike("39 NO", waiting, Edges.BARE, Due.NO, x -> x.check(7, 0, 30));
        edges.refusedLike("39 BAD ahead of NO", waiting, Edges.BARE, Due.BAD, x -> x.check(8, 0, 1));
        edges.refusedLike("39 BAD ahead of NO", waiting, Edges.BARE, Due.BAD, x -> x.check(0, 0, 31));
        edges.refused("39 NO, none wait", Edges.BARE, Due.NO, x -> x.check(0, 0, 1));
    }

    // ---- 40

    private static void keepAtTheEnds() {
        ShortCut x = new ShortCut();
        for (int bits = 0; bits <= 14; bits++) {
            due.is("40 " + bits + " BITS", x.keep(), bits);
            due.is("41 " + bits + " BITS", x.back(), bits);
            x.bit(5, 0, 1, 1);
        }
        due.is("40 again", x.keep(), 14);
    }

    private static void keepReplaces() {
        ShortCut x = new ShortCut();
        x.deal(14);
        x.keep();
        x.walk(0, 1);
        x.hush();
        x.keep();
        x.rule(1, 7);
        x.back();
        due.is("40 the last one alone", x.count(1), 1);
        due.is("40 the last one alone", x.count(4), 20);
        due.is("40 the last one alone", x.count(6), 0);
    }

    /** What comes behind keep() or back() is nothing to the IMAGE, and what is thought is not, either. */
    private static void imageIsApart() {
        Edges.Call away = x -> {
            x.keep();
            x.turns(0, 5);
            x.set(0, 3, 98);
            x.set(0, 4, 97);
            x.set(0, 5, 96);
            x.deal(14);
            x.walk(0, 6);
            x.behind(0, 6, 3);
            x.check(0, 6, 3);
            Due.putText(x, "take 4");
            return x.back();
        };
        Edges.Scene kept = () -> {
            ShortCut x = Edges.PART_NONE_WAIT.make();
            x.trim(0);
            x.keep();
            return x;
        };
        edges.refused("41 as it was kept", kept, 7, away);
        Edges.Call twice = x -> {
            away.on(x);
            x.walk(0, 6);
            x.deal(1);
            x.hush();
            return x.back();
        };
        edges.refused("41 again as it was kept", kept, 7, twice);
    }

    private static void imageKeepsAll() {
        ShortCut x = new ShortCut();
        x.keep();
        x.deal(14);
        x.walk(x.told(0, 1), x.told(0, 2));
        x.rule(0, 1);
        x.rule(1, 99);
        for (int i = 0; i < 14; i++) {
            Due.putText(x, new String[] {"take 1", "think 1", "fine 1"}[i % 3]);
        }
        x.back();
        int[] first = {0, 0, 0, 0, 20, 0, 0, 0};
        for (int what = 0; what < first.length; what++) {
            due.is("41 as new: count(" + what + ")", x.count(what), first[what]);
        }
        due.is("41 as new: z", x.count(10), 1);
        due.is("41 as new: the latest WALK", x.latest(3), Due.NONE);
        due.is("41 as new: its tries", x.tried(0), Due.NONE);
        due.is("41 as new: BITS", x.told(0, 0), Due.BAD);
        due.is("41 as new: TEXTS", x.textTold(0, 0), Due.BAD);
        for (int key = 0; key < 3; key++) {
            due.is("41 as new: which TEXT counts", x.why(key), Due.NONE);
        }
        due.is("41 as new: fine", x.fine(), 0);
        due.is("41 as new: a new BIT", x.bit(0, 0, 1, 50), 0);
        int[] told = {0, 0, 1, 50, 0, Due.NONE, 50, 0, 20, 50};
        for (int what = 0; what < told.length; what++) {
            due.is("41 as new: told(0, " + what + ")", x.told(0, what), told[what]);
        }
    }

    /** One walk that is STUCK and one at its goal, each kept while the other comes behind it. */
    private static void imageKeepsTheLatest() {
        int[][] latest = {{1, 1, 7, 1}, {9, 1, 1, 0}};
        for (int first = 0; first < 2; first++) {
            ShortCut x = new ShortCut();
            x.bit(5, 0, 1, 9);
            x.bit(1, 7, 6, 91);
            x.walk(first == 0 ? 7 : 0, first == 0 ? 6 : 1);
            x.keep();
            x.walk(first == 0 ? 0 : 7, first == 0 ? 1 : 6);
            x.back();
            for (int what = 0; what < 4; what++) {
                due.is("41 the latest WALK again, " + what, x.latest(what), latest[first][what]);
            }
            due.is("41 its try again", x.tried(0), first == 0 ? 1 : 0);
            due.is("41 no more tries", x.tried(1), Due.NONE);
        }
    }

    private static void imageKeepsNot() {
        ShortCut x = new ShortCut();
        x.sheet(0, 1, 2);
        x.lay(0, 3, 10);
        tell(x, 0);
        x.feed(0, 0, 0);
        x.keep();
        due.is("40 numbers still wait", x.count(8), 1);
        due.is("40 the tape still is there", x.count(9), 12);
        x.mark(0, 1, 5);
        x.sheet(1, 0, 3);
        x.lay(0, 3, 11);
        x.lay(1, 2, 0);
        tell(x, 0, 7);
        x.trim(7);
        due.is("41 back", x.back(), 0);
        due.is("41 SHEETS stay", x.wrong(0), 5);
        due.is("41 SHEETS stay", x.wrong(1), 0);
        due.is("41 SLOTS stay", x.rest(0, 100), 11);
        due.is("41 SLOTS stay", x.item(1, 1), 5);
        due.is("41 numbers that wait stay", x.count(8), 3);
        due.is("41 the tape stays", x.count(9), 7);
        due.is("41 numbers that wait stay", x.check(0, 0, 1), 3);
    }

    private static void backAgainAndAgain() {
        ShortCut x = track();
        for (int i = 0; i < 50; i++) {
            due.is("41 takes as long again", x.walk(0, 1), 90);
            due.is("41 again", x.back(), 1);
            due.is("41 again", x.count(1), 0);
        }
        due.is("41 twice at once", x.back(), 1);
    }

    private static void backWithoutImage() {
        edges.refused("41 NO", Edges.BARE, Due.NO, ShortCut::back);
        Edges.Scene filled = () -> {
            ShortCut x = new ShortCut();
            x.deal(14);
            x.walk(0, 7);
            tell(x, 1, 2);
            x.feed(1, 2, 3);
            return x;
        };
        edges.refused("41 NO", filled, Due.NO, ShortCut::back);
        ShortCut x = new ShortCut();
        x.back();
        due.is("41 still NO", x.back(), Due.NO);
        x.keep();
        due.is("41 an IMAGE of nothing is one", x.back(), 0);
    }

    // ---- 42

    private static void countAtTheEnds() {
        ShortCut x = new ShortCut();
        for (int i = 0; i < 14; i++) {
            x.bit(5, 0, 1, 99);
            due.is("42 BITS", x.count(0), i + 1);
            x.set(i, 4, 999);
            due.is("42 TRODDEN of all", x.count(5), 999 * (i + 1));
            x.set(i, 5, 0);
            due.is("42 BITS of which something was SAID", x.count(6), i + 1);
            Due.putText(x, "fine 0");
            due.is("42 TEXTS", x.count(7), i + 1);
        }
        x.rule(0, 1);
        x.rule(1, 99);
        due.is("42 WET", x.count(3), 1);
        due.is("42 GUESS", x.count(4), 99);
        x.rule(0, 0);
        x.rule(1, 1);
        due.is("42 WET", x.count(3), 0);
        due.is("42 GUESS", x.count(4), 1);
        int[] z = {MIN, MAX, 0, -1};
        for (int v : z) {
            x.seed(v);
            due.is("42 z", x.count(10), v);
        }
        x.set(13, 5, Due.NONE);
        due.is("42 nothing SAID of the last", x.count(6), 13);
        due.is("42 a WALK", x.walk(0, 1), 99);
        due.is("42 WALKS", x.count(1), 1);
        due.is("42 SPENT", x.count(2), 99);
        due.is("42 TRODDEN of all, held", x.count(5), 999 * 14);
        ShortCut full = Edges.FULL.make();
        due.is("42 numbers that wait", full.count(8), 60);
        due.is("42 bytes", full.count(9), 96);
    }

    private static void countRefuses() {
        edges.badOutside("42 what", 0, 10, v -> x -> x.count(v));
    }
}
