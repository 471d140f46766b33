import java.util.List;
import java.util.Random;

/**
 * Runs of drawn calls (the draws are always the same) on ShortCut and on its twin, call by call.
 * Arguments, if any: how many runs, and the seed of the draws.
 */
public final class TwinTest {
    private static final int RUNS = 600;
    private static final int CALLS = 512;
    private static final int[] EDGES = {
        -1, 0, Integer.MIN_VALUE, Integer.MAX_VALUE, Due.NONE, Due.BAD, 1000, 100000, -100000, 32768, -32769, 65535};

    private final Due due = new Due();
    private final Random lot;
    private ShortCut x = new ShortCut();
    private Twin twin = new Twin();
    private String run;
    private int calls = 0;

    private TwinTest(long seed) {
        lot = new Random(seed);
    }

    public static void main(String[] args) {
        int runs = args.length > 0 ? Integer.parseInt(args[0]) : RUNS;
        TwinTest test = new TwinTest(args.length > 1 ? Long.parseLong(args[1]) : 20261117L);
        for (int i = 0; i < runs; i++) {
            test.runOne("run " + i);
        }
        test.due.end("TwinTest");
    }

    private void runOne(String name) {
        x = new ShortCut();
        twin = new Twin();
        run = name;
        calls = 0;
        int flavour = lot.nextInt(4);
        if (flavour == 0) {
            int v = lot.nextInt();
            is("seed", x.seed(v), twin.seed(v));
            int n = 1 + lot.nextInt(14);
            is("deal", x.deal(n), twin.deal(n));
        }
        while (calls < CALLS - 20) {
            switch (lot.nextInt(flavour == 3 ? 9 : 7)) {
                case 0: bits(); break;
                case 1: walks(); break;
                case 2: will(); break;
                case 3: texts(); break;
                case 4: sheets(); break;
                case 5: slots(); break;
                case 6: rows(); break;
                default: walks(); break;
            }
        }
    }

    private void is(String call, int got, int want) {
        calls++;
        due.is(run + ", call " + calls + ", " + call, got, want);
    }

    /** Mostly within the bounds, now and then right at, right beyond or far beyond them. */
    private int near(int least, int most) {
        switch (lot.nextInt(24)) {
            case 0: return least - 1;
            case 1: return most + 1;
            case 2: return EDGES[lot.nextInt(EDGES.length)];
            case 3: return least;
            case 4: return most;
            default: return least + lot.nextInt(most - least + 1);
        }
    }

    private int spot() {
        return lot.nextInt(3) == 0 ? near(0, 7) : lot.nextInt(5);
    }

    private int anyBit() {
        int n = Math.max(1, twin.count(0));
        return near(0, n - 1);
    }

    private void bits() {
        int a = anyBit();
        switch (lot.nextInt(10)) {
            case 0:
            case 1:
                int k = near(0, 5);
                int f = spot();
                int t = spot();
                int l = near(1, lot.nextInt(3) == 0 ? 99 : 30);
                is("bit(" + k + ", " + f + ", " + t + ", " + l + ")", x.bit(k, f, t, l), twin.bit(k, f, t, l));
                break;
            case 2:
            case 3:
                for (int what = -1; what <= 10; what++) {
                    is("told(" + a + ", " + what + ")", x.told(a, what), twin.told(a, what));
                }
                break;
            case 4:
                k = near(0, 5);
                is("as(" + a + ", " + k + ")", x.as(a, k), twin.as(a, k));
                break;
            case 5:
                k = near(0, 5);
                is("turns(" + a + ", " + k + ")", x.turns(a, k), twin.turns(a, k));
                break;
            case 6:
                int what = near(3, 5);
                int v = what == 3 ? near(1, 99) : lot.nextBoolean() ? near(0, 999) : near(0, 30);
                is("set(" + a + ", " + what + ", " + v + ")", x.set(a, what, v), twin.set(a, what, v));
                break;
            case 7:
                what = near(0, 1);
                v = what == 0 ? near(0, 1) : near(1, 99);
                is("rule(" + what + ", " + v + ")", x.rule(what, v), twin.rule(what, v));
                break;
            case 8:
                v = near(1, lot.nextInt(4) == 0 ? 14 : 3);
                is("deal(" + v + ")", x.deal(v), twin.deal(v));
                break;
            default:
                v = lot.nextInt();
                is("seed(" + v + ")", x.seed(v), twin.seed(v));
                break;
        }
    }

    private void walks() {
        int f = spot();
        int t = spot();
        int i = near(0, 12);
        int what = near(0, 3);
        switch (lot.nextInt(7)) {
            case 0:
            case 1:
            case 2: is("walk(" + f + ", " + t + ")", x.walk(f, t), twin.walk(f, t)); break;
            case 3:
            case 4: is("latest(" + what + ")", x.latest(what), twin.latest(what)); break;
            case 5: is("tried(" + i + ")", x.tried(i), twin.tried(i)); break;
            default:
                if (lot.nextInt(4) == 0) {
                    is("hush()", x.hush(), twin.hush());
                }
                break;
        }
    }

    private void will() {
        int f = spot();
        int t = spot();
        int n = lot.nextInt(3) == 0 ? near(0, 40) : near(0, 5);
        String w = "(" + f + ", " + t;
        switch (lot.nextInt(10)) {
            case 0: is("best" + w, x.best(f, t), twin.best(f, t)); break;
            case 1: is("loses" + w, x.loses(f, t), twin.loses(f, t)); break;
            case 2: is("behind" + w + ", " + n, x.behind(f, t, n), twin.behind(f, t, n)); break;
            case 3: is("same" + w, x.same(f, t), twin.same(f, t)); break;
            case 4:
                int what = near(0, 1);
                is("look" + w + ", " + what, x.look(f, t, what), twin.look(f, t, what));
                break;
            case 5: is("wanted" + w, x.wanted(f, t), twin.wanted(f, t)); break;
            case 6:
                int m = lot.nextBoolean() ? near(0, 999) : near(0, 60);
                is("reach(" + f + ", " + m, x.reach(f, m), twin.reach(f, m));
                break;
            case 7: is("ever" + w + ", " + n, x.ever(f, t, n), twin.ever(f, t, n)); break;
            case 8:
                int sheet = near(0, 3);
                is("wrong(" + sheet, x.wrong(sheet), twin.wrong(sheet));
                break;
            default: is("fine()", x.fine(), twin.fine()); break;
        }
    }

    private void texts() {
        int v = near(0, 3);
        switch (lot.nextInt(7)) {
            case 0:
                int a = lot.nextInt();
                int b = lot.nextInt();
                int c = lot.nextInt();
                is("feed", x.feed(a, b, c), twin.feed(a, b, c));
                break;
            case 1:
                int n = near(0, 96);
                is("trim(" + n + ")", x.trim(n), twin.trim(n));
                break;
            case 2: is("why(" + v + ")", x.why(v), twin.why(v)); break;
            case 3:
                int text = near(0, 13);
                int what = near(0, 1);
                is("textTold(" + text + ", " + what + ")", x.textTold(text, what), twin.textTold(text, what));
                break;
            default: putText(lot.nextInt(3) == 0 ? spoilt(aText()) : aText()); break;
        }
    }

    private void putText(String bytes) {
        is("trim(0)", x.trim(0), twin.trim(0));
        for (int i = 0; i < bytes.length(); i += 12) {
            int a = Due.four(bytes, i);
            int b = Due.four(bytes, i + 4);
            int c = Due.four(bytes, i + 8);
            is("feed", x.feed(a, b, c), twin.feed(a, b, c));
        }
        is("trim", x.trim(bytes.length()), twin.trim(bytes.length()));
        is("text() of '" + bytes + "'", x.text(), twin.text());
    }

    private String aText() {
        int key = lot.nextInt(3);
        String all;
        do {
            String e = lot.nextInt(6) == 0 ? deep(key) : level(key, 0, 1 + lot.nextInt(3));
            all = new String[] {"take", "think", "fine"}[key] + " " + e;
        } while (all.length() > 96);
        return all;
    }

    private String deep(int key) {
        StringBuilder all = new StringBuilder();
        int open = 0;
        for (int i = 6 + lot.nextInt(14); i > 0; i--) {
            boolean bracket = lot.nextBoolean();
            all.append(bracket ? "(" : "!");
            open += bracket ? 1 : 0;
        }
        all.append(leaf(key));
        for (int i = 0; i < open; i++) {
            all.append(lot.nextInt(4) == 0 ? ")" : lot.nextBoolean() ? "+!" + leaf(key) + ")" : "&" + leaf(key) + ")");
        }
        return all.toString();
    }

    private String level(int key, int level, int depth) {
        if (level == 5) {
            int n = lot.nextInt(10);
            if (n == 0) {
                return "!" + blank() + level(key, 5, depth);
            }
            return n < 3 && depth > 0 ? "(" + level(key, 0, depth - 1) + blank() + ")" : leaf(key);
        }
        String signs = new String[] {"|", "&", "<=>", "+-", "*/"}[level];
        StringBuilder all = new StringBuilder(level(key, level + 1, depth));
        int more = lot.nextInt(level > 2 ? 3 : 5) == 0 ? 1 + (level == 2 ? 0 : lot.nextInt(2)) : 0;
        for (int i = 0; i < more; i++) {
            all.append(blank()).append(signs.charAt(lot.nextInt(signs.length()))).append(blank());
            all.append(level(key, level + 1, depth));
        }
        return all.toString();
    }

    private String blank() {
        return " ".repeat(Math.max(0, lot.nextInt(5) - 3));
    }

    private String leaf(int key) {
        String names = Twin.namesOf(key);
        if (lot.nextInt(3) > 0) {
            return String.valueOf(names.charAt(lot.nextInt(names.length())));
        }
        return String.valueOf(lot.nextInt(lot.nextBoolean() ? 10 : 10000));
    }

    /** One byte more, less or otherwise, perhaps several times. */
    private String spoilt(String text) {
        String signs = "(((!!)<=>+-*/&| 012lwtsgkmaz\u0000\u00ff{`:A";
        StringBuilder all = new StringBuilder(text);
        for (int i = lot.nextInt(4); i >= 0; i--) {
            int at = lot.nextInt(all.length());
            char c = signs.charAt(lot.nextInt(signs.length()));
            switch (lot.nextInt(4)) {
                case 0: all.insert(at, c); break;
                case 1: all.setCharAt(at, c); break;
                case 2: all.setLength(at); all.append(c); break;
                default: all.deleteCharAt(at); all.append(c); break;
            }
        }
        all.setLength(Math.min(96, all.length()));
        return all.toString();
    }

    private void sheets() {
        int s = near(0, 3);
        switch (lot.nextInt(6)) {
            case 0:
                int sort = near(-1, 1);
                int n = near(0, 24);
                is("sheet(" + s + ", " + sort + ", " + n + ")", x.sheet(s, sort, n), twin.sheet(s, sort, n));
                break;
            case 1:
            case 2:
                int place = near(0, lot.nextBoolean() ? 3 : 23);
                int v = lot.nextInt(8) == 0 ? Due.NONE : lot.nextBoolean() ? near(0, 14) : near(-1200, 1200);
                v = lot.nextInt(8) == 0 ? near(-99999, 99999) : v;
                is("mark(" + s + ", " + place + ", " + v + ")", x.mark(s, place, v), twin.mark(s, place, v));
                break;
            case 3: is("pour(" + s + ")", x.pour(s), twin.pour(s)); break;
            case 4: is("reads(" + s + ")", x.reads(s), twin.reads(s)); break;
            default:
                int t = near(0, 3);
                int from = near(0, 12);
                int at = near(0, 12);
                int many = near(0, 12);
                is("copy(" + s + ", " + from + ", " + t + ", " + at + ", " + many + ")",
                    x.copy(s, from, t, at, many), twin.copy(s, from, t, at, many));
                break;
        }
    }

    private void slots() {
        int s = near(0, 4);
        switch (lot.nextInt(5)) {
            case 0:
                int thing = near(0, 3);
                int k = thing == 3 ? lot.nextInt() : near(0, 3);
                is("lay(" + s + ", " + thing + ", " + k + ")", x.lay(s, thing, k), twin.lay(s, thing, k));
                break;
            case 1:
                int kind = near(0, 5);
                is("ask(" + s + ", " + kind + ")", x.ask(s, kind), twin.ask(s, kind));
                break;
            case 2:
            case 3:
                int place = near(0, lot.nextBoolean() ? 3 : 23);
                is("item(" + s + ", " + place + ")", x.item(s, place), twin.item(s, place));
                break;
            default:
                int n = lot.nextBoolean() ? near(-3, 9) : lot.nextInt();
                is("rest(" + s + ", " + n + ")", x.rest(s, n), twin.rest(s, n));
                break;
        }
    }

    private void rows() {
        int what = near(0, 10);
        switch (lot.nextInt(9)) {
            case 0:
                int v = lot.nextInt(100);
                is("tell(" + v + ")", x.tell(v), twin.tell(v));
                break;
            case 1: checks(); break;
            case 2: is("keep()", x.keep(), twin.keep()); break;
            case 3:
                if (lot.nextInt(3) == 0) {
                    is("back()", x.back(), twin.back());
                }
                break;
            default: is("count(" + what + ")", x.count(what), twin.count(what)); break;
        }
    }

    /** Mostly tells what is right, perhaps with one number otherwise, missing or too many. */
    private void checks() {
        int f = spot();
        int t = spot();
        int n = near(1, lot.nextInt(12) == 0 ? 30 : 3);
        boolean good = f >= 0 && f < 8 && t >= 0 && t < 8 && n >= 1 && n <= 30 && calls + 2 * n < CALLS - 20;
        if (good && twin.hasImage()) {
            List<Integer> told = twin.walksTold(f, t, n);
            int spoil = lot.nextInt(4);
            int at = lot.nextInt(told.size());
            for (int i = 0; i < told.size() - (spoil == 0 ? 1 : 0); i++) {
                int v = told.get(i) + (spoil == 1 && i == at ? 1 : 0);
                is("tell(" + v + ")", x.tell(v), twin.tell(v));
            }
            if (spoil == 2) {
                is("tell(0)", x.tell(0), twin.tell(0));
            }
        }
        is("check(" + f + ", " + t + ", " + n + ")", x.check(f, t, n), twin.check(f, t, n));
    }
}
