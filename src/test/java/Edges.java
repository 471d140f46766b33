import java.util.ArrayList;
import java.util.Arrays;
import java.util.HashMap;
import java.util.List;
import java.util.Map;
import java.util.function.IntFunction;

/**
 * Scenes to start from, and probes that ask them for all that can be asked. Two objects of one scene are
 * alike, so a refused call has changed nothing if its object answers every probe as one without that call.
 */
final class Edges {
    interface Call {
        int on(ShortCut x);
    }

    interface Scene {
        ShortCut make();
    }

    private interface Probe {
        void ask(ShortCut x, List<Integer> answers);
    }

    /** Nothing there yet; a bit of everything; everything full. */
    static final Scene BARE = ShortCut::new;
    static final Scene PART = () -> part(true);
    static final Scene FULL = () -> full(true);
    static final Scene[] ALL = {BARE, PART, FULL};
    static final int[] BITS_OF = {0, 7, 14};
    static final int[] TEXTS_OF = {0, 3, 14};
    static final int[] BYTES_OF = {0, 18, 96};

    /** The same, but that no numbers wait, or that the tape is empty. */
    static final Scene PART_NONE_WAIT = () -> part(false);
    static final Scene FULL_NONE_WAIT = () -> full(false);
    static final Scene PART_NO_TAPE = () -> withoutTape(part(true));
    static final Scene FULL_NO_TAPE = () -> withoutTape(full(true));

    private static final Probe[] PROBES = {
        Edges::askLand, Edges::askTexts, Edges::askTape, Edges::askSheets, Edges::askSlots,
        Edges::askWaiting, Edges::askImage, Edges::goOn};

    private final Due due;
    private final Map<Scene, List<List<Integer>>> known = new HashMap<>();

    Edges(Due due) {
        this.due = due;
    }

    // ---- refusals

    /** The call is refused so, and changes nothing. */
    void refused(String name, Scene scene, int want, Call call) {
        refusedLike(name, scene, scene, want, call);
    }

    /** The call is refused so, and behind it all is as in the scene settled. */
    void refusedLike(String name, Scene scene, Scene settled, int want, Call call) {
        List<List<Integer>> settledAnswers = known.computeIfAbsent(settled, Edges::answers);
        for (int p = 0; p < PROBES.length; p++) {
            ShortCut x = scene.make();
            due.is(name, call.on(x), want);
            due.is(name + ", then changed (probe " + p + ")", answers(p, x).equals(settledAnswers.get(p)) ? 0 : 1, 0);
        }
    }

    void refusedInAll(String name, int want, Call call) {
        for (int s = 0; s < ALL.length; s++) {
            refused(name + ", scene " + s, ALL[s], want, call);
        }
    }

    /** Each value outside of least .. most is BAD, whatever the scene. */
    void badOutside(String name, int least, int most, IntFunction<Call> callOf) {
        for (int v : outside(least, most)) {
            refusedInAll(name + " " + v, Due.BAD, callOf.apply(v));
        }
    }

    /** Each value that is not the number of a BIT is BAD; how many there are hangs on the scene. */
    void badBits(String name, IntFunction<Call> callOf) {
        for (int s = 0; s < ALL.length; s++) {
            for (int v : outside(0, BITS_OF[s] - 1)) {
                refused(name + " " + v + ", scene " + s, ALL[s], Due.BAD, callOf.apply(v));
            }
        }
    }

    /**
     * The first ones below and above, far ones at both ends of an int, ones whose lowest 8 or 16 bits lie
     * within, and those that are answers.
     */
    static int[] outside(int least, int most) {
        int[] all = {
            least - 1, most + 1, Integer.MIN_VALUE, Integer.MIN_VALUE + 1, Integer.MAX_VALUE, Integer.MAX_VALUE - 1,
            least + 256, least - 256, least + 65536, least - 65536, Due.BAD, Due.NONE};
        int n = 0;
        for (int v : all) {
            if (v < least || v > most) {
                all[n] = v;
                n++;
            }
        }
        return Arrays.copyOf(all, n);
    }

    // ---- scenes

    /** Bits of all kinds in a row, 0 - 1 - 2 - 3 - 4 - 5 - 6, and one from 0 to 6. */
    private static ShortCut partKept() {
        ShortCut x = new ShortCut();
        for (int kind = 0; kind < 6; kind++) {
            x.bit(kind, kind, kind + 1, 10 + kind);
        }
        x.bit(0, 0, 6, 99);
        Due.putText(x, "take l+w*2");
        Due.putText(x, "think s+g+k");
        x.walk(0, 3);
        x.keep();
        return x;
    }

    private static ShortCut part(boolean waits) {
        ShortCut x = partKept();
        x.rule(1, 33);
        x.rule(0, 1);
        x.set(2, 4, 7);
        x.walk(4, 1);
        x.seed(77);
        Due.putText(x, "fine m-w");
        x.sheet(0, 0, 5);
        x.sheet(1, 1, 4);
        x.sheet(3, 0, 0);
        for (int i = 0; i < 4; i++) {
            x.mark(0, i, 3 - 2 * i);
            x.mark(1, i, i == 1 ? Due.NONE : 40000 * (i - 2));
        }
        x.lay(0, 1, 3);
        x.lay(1, 2, 1);
        x.lay(2, 3, -12345);
        x.lay(4, 2, 0);
        if (waits) {
            int[] told = walksTold(partKept(), 0, 3, 2);
            for (int i = 0; i < 3; i++) {
                x.tell(told[i]);
            }
        }
        Due.putTape(x, "fine 12*m+w - 100 ");
        return x;
    }

    private static ShortCut fullKept() {
        ShortCut x = new ShortCut();
        x.seed(11);
        x.deal(13);
        for (int i = 0; i < 11; i++) {
            Due.putText(x, "fine m+" + i);
        }
        Due.putText(x, "take l+t/2");
        Due.putText(x, "think s+g/(k+1)");
        x.walk(0, 5);
        x.keep();
        return x;
    }

    private static ShortCut full(boolean waits) {
        ShortCut x = fullKept();
        x.bit(1, 7, 0, 91);
        Due.putText(x, "fine m+w*3");
        x.walk(5, 2);
        x.walk(7, 3);
        for (int s = 0; s < 4; s++) {
            x.sheet(s, s % 2, 24);
            x.mark(s, 0, 3 * s);
            x.mark(s, 11, -700);
            x.mark(s, 23, s == 3 ? Due.NONE : 30000);
        }
        x.lay(0, 1, 13);
        x.lay(1, 2, 3);
        x.lay(2, 3, Integer.MAX_VALUE);
        x.lay(3, 1, 0);
        x.lay(4, 2, 0);
        if (waits) {
            for (int v : walksTold(fullKept(), 0, 5, 30)) {
                x.tell(v);
            }
        }
        Due.putTape(x, "fine 10" + "+1".repeat(44) + " ");
        return x;
    }

    private static ShortCut withoutTape(ShortCut x) {
        x.trim(0);
        return x;
    }

    static int[] walksTold(ShortCut kept, int from, int to, int n) {
        int[] all = new int[2 * n];
        for (int i = 0; i < n; i++) {
            all[2 * i] = kept.walk(from, to);
            all[2 * i + 1] = kept.count(5);
        }
        return all;
    }

    // ---- probes: each leaves an object within its 512 calls

    private static List<List<Integer>> answers(Scene scene) {
        List<List<Integer>> all = new ArrayList<>();
        for (int p = 0; p < PROBES.length; p++) {
            all.add(answers(p, scene.make()));
        }
        return all;
    }

    private static List<Integer> answers(int probe, ShortCut x) {
        List<Integer> all = new ArrayList<>();
        PROBES[probe].ask(x, all);
        return all;
    }

    private static void askLand(ShortCut x, List<Integer> all) {
        for (int what = 0; what <= 10; what++) {
            all.add(x.count(what));
        }
        for (int bit = 0; bit < 14; bit++) {
            for (int what = 0; what < 10; what++) {
                all.add(x.told(bit, what));
            }
        }
        for (int what = 0; what < 4; what++) {
            all.add(x.latest(what));
        }
        for (int i = 0; i < 20; i++) {
            all.add(x.tried(i));
        }
        all.add(x.fine());
    }

    private static void askTexts(ShortCut x, List<Integer> all) {
        for (int text = 0; text < 14; text++) {
            all.add(x.textTold(text, 0));
            all.add(x.textTold(text, 1));
        }
        for (int key = 0; key < 3; key++) {
            all.add(x.why(key));
        }
    }

    /** By going back there is room for the text on the tape. */
    private static void askTape(ShortCut x, List<Integer> all) {
        all.add(x.count(9));
        all.add(x.back());
        all.add(x.feed(Due.four("+ 00", 0), Due.four("07 *", 0), Due.four(" 3  ", 0)));
        all.add(x.text());
        all.add(x.fine());
        all.add(x.why(2));
    }

    private static void askSheets(ShortCut x, List<Integer> all) {
        for (int s = 0; s < 4; s++) {
            all.add(x.wrong(s));
            all.add(x.reads(s));
            all.add(x.lay(3, 2, s));
            for (int i = 0; i <= 24; i++) {
                all.add(x.item(3, i));
            }
            all.add(x.copy(s, 0, s, 0, 0));
            all.add(x.mark(s, 0, 100000));
            all.add(x.lay(3, 0, 0));
        }
    }

    private static void askSlots(ShortCut x, List<Integer> all) {
        for (int s = 0; s < 5; s++) {
            for (int kind = 0; kind < 6; kind++) {
                all.add(x.ask(s, kind));
            }
            for (int i = 0; i <= 24; i++) {
                all.add(x.item(s, i));
            }
            all.add(x.rest(s, Integer.MIN_VALUE));
            all.add(x.lay(s, 0, 0));
        }
    }

    private static void askWaiting(ShortCut x, List<Integer> all) {
        boolean isFull = x.count(0) == 14;
        all.add(x.count(8));
        all.add(isFull ? x.check(0, 5, 30) : x.check(0, 3, 2));
        all.add(x.count(8));
    }

    private static void askImage(ShortCut x, List<Integer> all) {
        all.add(x.back());
        askLand(x, all);
        askTexts(x, all);
    }

    private static void goOn(ShortCut x, List<Integer> all) {
        all.add(x.tell(5));
        all.add(x.deal(3));
        all.add(x.walk(0, 6));
        all.add(x.same(3, 0));
        all.add(x.walk(2, 5));
        all.add(x.behind(5, 0, 2));
        all.add(x.rule(0, 0));
        all.add(x.walk(6, 1));
        askLand(x, all);
    }
}
