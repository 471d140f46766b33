import java.util.ArrayDeque;
import java.util.ArrayList;
import java.util.Arrays;
import java.util.Deque;
import java.util.List;
import java.util.regex.Matcher;
import java.util.regex.Pattern;

/**
 * The document once more, written slowly and by other means (all ways are listed, texts are split at
 * their loosest sign, faults are found by a row of open signs), to be compared with ShortCut.
 */
final class Twin {
    static final class Way {
        int kind;
        int a;
        int b;
        int length;
        int trodden = 0;
        Integer said = null;

        Way(int kind, int a, int b, int length) {
            this.kind = kind;
            this.a = a;
            this.b = b;
            this.length = length;
        }

        Way again() {
            Way w = new Way(kind, a, b, length);
            w.trodden = trodden;
            w.said = said;
            return w;
        }

        boolean under(int k) {
            switch (kind) {
                case 0: return k == 0;
                case 1: return k == 0 || k == 1;
                case 2: return k == 0 || k == 2;
                case 3: return k == 0 || k == 1 || k == 3;
                case 4: return k == 0 || k == 2 || k == 4;
                default: return k == 0 || k == 5;
            }
        }

        int worth() {
            int[] all = {length, length + 4, 99 - length, 2 * (length + 4), 99 - length - 6, 60};
            return all[kind];
        }
    }

    record Law(int key, List<String> tokens) {
        int operands() {
            return (int) tokens.stream().filter(t -> Character.isLetterOrDigit(t.charAt(0))).count();
        }

        int value(int... names) {
            return value(tokens, names);
        }

        private int value(List<String> row, int[] names) {
            String[] loosestFirst = {"|", "&", "<=>", "+-", "*/"};
            for (String signs : loosestFirst) {
                int at = lastOutside(row, signs);
                if (at > 0) {
                    int left = value(row.subList(0, at), names);
                    int right = value(row.subList(at + 1, row.size()), names);
                    return join(row.get(at).charAt(0), left, right);
                }
            }
            String first = row.get(0);
            if (first.equals("!")) {
                return value(row.subList(1, row.size()), names) == 0 ? 1 : 0;
            }
            if (first.equals("(")) {
                return value(row.subList(1, row.size() - 1), names);
            }
            if (Character.isDigit(first.charAt(0))) {
                return Integer.parseInt(first);
            }
            return names[namesOf(key).indexOf(first)];
        }

        private static int lastOutside(List<String> row, String signs) {
            int open = 0;
            for (int i = row.size() - 1; i > 0; i--) {
                String t = row.get(i);
                if (t.equals(")")) {
                    open++;
                } else if (t.equals("(")) {
                    open--;
                } else if (open == 0 && signs.contains(t)) {
                    return i;
                }
            }
            return -1;
        }

        private static int join(char sign, int a, int b) {
            boolean p = a != 0;
            boolean q = b != 0;
            switch (sign) {
                case '|': return p | q ? 1 : 0;
                case '&': return p & q ? 1 : 0;
                case '<': return a < b ? 1 : 0;
                case '=': return a == b ? 1 : 0;
                case '>': return a > b ? 1 : 0;
                case '+': return (int) ((long) a + b);
                case '-': return (int) ((long) a - b);
                case '*': return (int) ((long) a * b);
                default: return b == 0 ? 0 : (int) ((long) a / b);
            }
        }
    }

    static final class State {
        List<Way> ways = new ArrayList<>();
        int wet = 0;
        int guess = 20;
        int walks = 0;
        int spent = 0;
        int z = 1;
        List<Law> laws = new ArrayList<>();
        Integer[] counts = {null, null, null};
        int[] latest = null;
        List<Integer> tried = new ArrayList<>();

        State again() {
            State s = new State();
            for (Way w : ways) {
                s.ways.add(w.again());
            }
            s.wet = wet;
            s.guess = guess;
            s.walks = walks;
            s.spent = spent;
            s.z = z;
            s.laws = new ArrayList<>(laws);
            s.counts = counts.clone();
            s.latest = latest == null ? null : latest.clone();
            s.tried = new ArrayList<>(tried);
            return s;
        }

        int takes(Way w) {
            int bit = w.length;
            if (counts[0] != null) {
                bit = held(laws.get(counts[0]).value(w.length, wet, w.trodden), 1, 999);
            }
            int track = bit - w.trodden < 1 ? 1 : bit - w.trodden;
            int path = track / 2 < 1 ? 1 : track / 2;
            int wild = bit * (1 + wet);
            int[] all = {bit, track, wild, path, wild, w.length};
            return all[w.kind];
        }

        boolean barred(Way w) {
            return w.kind == 4 && wet == 1 || (w.kind == 1 || w.kind == 3) && w.length > 90;
        }

        int thinks(Way w) {
            if (counts[1] != null) {
                return held(laws.get(counts[1]).value(w.said == null ? 0 : w.said, guess, w.kind), 1, 999);
            }
            if (w.said == null) {
                return guess;
            }
            return w.said == 0 ? 1 : w.said;
        }

        int trodden() {
            return ways.stream().mapToInt(w -> w.trodden).sum();
        }

        int draw() {
            z = z * 1103515245 + 12345;
            return z >>> 8;
        }

        /** {least cost, first bit of it} over all ways without circles, or null. */
        int[] least(int from, int to, int[] cost) {
            if (from == to) {
                return new int[] {0, -1};
            }
            int[] found = {Integer.MAX_VALUE, -1};
            list(from, to, cost, 1 << from, 0, -1, found);
            return found[1] < 0 ? null : found;
        }

        private void list(int at, int to, int[] cost, int been, int spentSoFar, int first, int[] found) {
            if (at == to) {
                if (spentSoFar < found[0] || spentSoFar == found[0] && first < found[1]) {
                    found[0] = spentSoFar;
                    found[1] = first;
                }
                return;
            }
            for (int i = 0; i < ways.size(); i++) {
                Way w = ways.get(i);
                if (cost[i] < 0 || w.a != at && w.b != at) {
                    continue;
                }
                int next = w.a == at ? w.b : w.a;
                if ((been >> next & 1) == 0) {
                    list(next, to, cost, been | 1 << next, spentSoFar + cost[i], first < 0 ? i : first, found);
                }
            }
        }

        Integer best(int from, int to, int without) {
            int[] cost = new int[ways.size()];
            for (int i = 0; i < cost.length; i++) {
                cost[i] = i == without || barred(ways.get(i)) ? -1 : takes(ways.get(i));
            }
            int[] way = least(from, to, cost);
            return way == null ? null : way[0];
        }

        int walk(int from, int to) {
            boolean[] found = new boolean[ways.size()];
            int minutes = 0;
            int at = from;
            int how;
            tried = new ArrayList<>();
            while (true) {
                if (at == to) {
                    how = 0;
                    break;
                }
                int[] cost = new int[ways.size()];
                for (int i = 0; i < cost.length; i++) {
                    cost[i] = found[i] ? -1 : thinks(ways.get(i));
                }
                int[] way = least(at, to, cost);
                if (way == null) {
                    how = 1;
                    break;
                }
                if (tried.size() == 60) {
                    how = 2;
                    break;
                }
                Way w = ways.get(way[1]);
                tried.add(way[1]);
                if (barred(w)) {
                    found[way[1]] = true;
                    minutes++;
                } else {
                    int takes = takes(w);
                    minutes += takes;
                    at = at == w.a ? w.b : w.a;
                    w.said = takes > 999 ? 999 : takes;
                    w.trodden = w.trodden == 999 ? 999 : w.trodden + 1;
                }
            }
            latest = new int[] {minutes, tried.size(), at, how};
            walks++;
            spent += minutes;
            return minutes;
        }
    }

    /** sort 0 shorts, 1 floats; a null in it is no number. */
    record Row(int sort, Integer[] places) {
        Row again() {
            return new Row(sort, places.clone());
        }
    }

    private State s = new State();
    private State image = null;
    private final Row[] sheets = new Row[4];
    private final Object[] slots = new Object[5];
    private final List<Integer> waiting = new ArrayList<>();
    private String tape = "";

    static int held(int v, int least, int most) {
        return v < least ? least : v > most ? most : v;
    }

    static String namesOf(int key) {
        return key == 0 ? "lwt" : key == 1 ? "sgk" : "mw";
    }

    private static boolean in(int v, int least, int most) {
        return least <= v && v <= most;
    }

    private static boolean spots(int a, int b) {
        return in(a, 0, 7) && in(b, 0, 7);
    }

    private boolean has(int bit) {
        return in(bit, 0, s.ways.size() - 1);
    }

    int bit(int kind, int from, int to, int length) {
        if (!in(kind, 0, 5) || !spots(from, to) || from == to || !in(length, 1, 99)) {
            return Due.BAD;
        }
        if (s.ways.size() == 14) {
            return Due.FULL;
        }
        s.ways.add(new Way(kind, from, to, length));
        return s.ways.size() - 1;
    }

    int told(int bit, int what) {
        if (!has(bit) || !in(what, 0, 9)) {
            return Due.BAD;
        }
        Way w = s.ways.get(bit);
        int[] all = {w.kind, w.a, w.b, w.length, w.trodden, w.said == null ? Due.NONE : w.said,
            s.takes(w), s.barred(w) ? 1 : 0, s.thinks(w), w.worth()};
        return all[what];
    }

    int as(int bit, int kind) {
        if (!has(bit) || !in(kind, 0, 5)) {
            return Due.BAD;
        }
        return s.ways.get(bit).under(kind) ? s.ways.get(bit).length : Due.KIND;
    }

    int turns(int bit, int kind) {
        if (!has(bit) || !in(kind, 0, 5)) {
            return Due.BAD;
        }
        int was = s.ways.get(bit).kind;
        s.ways.get(bit).kind = kind;
        return was;
    }

    int set(int bit, int what, int v) {
        if (!has(bit)) {
            return Due.BAD;
        }
        Way w = s.ways.get(bit);
        int was;
        if (what == 3 && in(v, 1, 99)) {
            was = w.length;
            w.length = v;
        } else if (what == 4 && in(v, 0, 999)) {
            was = w.trodden;
            w.trodden = v;
        } else if (what == 5 && (v == Due.NONE || in(v, 0, 999))) {
            was = w.said == null ? Due.NONE : w.said;
            w.said = v == Due.NONE ? null : Integer.valueOf(v);
        } else {
            was = Due.BAD;
        }
        return was;
    }

    int rule(int what, int v) {
        int was = Due.BAD;
        if (what == 0 && in(v, 0, 1)) {
            was = s.wet;
            s.wet = v;
        } else if (what == 1 && in(v, 1, 99)) {
            was = s.guess;
            s.guess = v;
        }
        return was;
    }

    int deal(int n) {
        if (!in(n, 1, 14)) {
            return Due.BAD;
        }
        int came = 0;
        while (came < n && s.ways.size() < 14) {
            int kind = s.draw() % 6;
            int a = s.draw() % 8;
            int b = (a + 1 + s.draw() % 7) % 8;
            s.ways.add(new Way(kind, a, b, 1 + s.draw() % 40));
            came++;
        }
        return came;
    }

    int seed(int v) {
        int was = s.z;
        s.z = v;
        return was;
    }

    int walk(int from, int to) {
        return spots(from, to) ? s.walk(from, to) : Due.BAD;
    }

    int latest(int what) {
        if (!in(what, 0, 3)) {
            return Due.BAD;
        }
        return s.latest == null ? Due.NONE : s.latest[what];
    }

    int tried(int i) {
        if (i < 0) {
            return Due.BAD;
        }
        return i < s.tried.size() ? s.tried.get(i) : Due.NONE;
    }

    int hush() {
        int n = 0;
        for (Way w : s.ways) {
            n += w.said == null ? 0 : 1;
            w.said = null;
        }
        return n;
    }

    int best(int from, int to) {
        if (!spots(from, to)) {
            return Due.BAD;
        }
        Integer best = s.best(from, to, -1);
        return best == null ? Due.NONE : best;
    }

    int loses(int from, int to) {
        int best = best(from, to);
        return best < 0 ? best : s.again().walk(from, to) - best;
    }

    int behind(int from, int to, int n) {
        if (!spots(from, to) || !in(n, 0, 40)) {
            return Due.BAD;
        }
        State t = s.again();
        int minutes = 0;
        for (int i = 0; i <= n; i++) {
            minutes = t.walk(from, to);
        }
        return minutes;
    }

    int same(int from, int to) {
        if (!spots(from, to)) {
            return Due.BAD;
        }
        State t = s.again();
        List<List<Integer>> told = new ArrayList<>();
        for (int i = 0; i <= 40; i++) {
            int minutes = t.walk(from, to);
            List<Integer> all = new ArrayList<>(t.tried);
            all.add(minutes);
            told.add(all);
        }
        for (int k = 1; k <= 40; k++) {
            if (told.get(k).equals(told.get(k - 1))) {
                return k;
            }
        }
        return Due.NONE;
    }

    int look(int from, int to, int what) {
        if (!spots(from, to) || !in(what, 0, 1)) {
            return Due.BAD;
        }
        int[] best = {Due.NONE, Due.NONE};
        for (int i = s.ways.size() - 1; i >= 0; i--) {
            State t = s.again();
            t.ways.get(i).said = Math.min(999, t.takes(t.ways.get(i)));
            int minutes = t.walk(from, to);
            if (best[0] == Due.NONE || minutes <= best[1]) {
                best = new int[] {i, minutes};
            }
        }
        return best[what];
    }

    int wanted(int from, int to) {
        if (!spots(from, to)) {
            return Due.BAD;
        }
        int bit = Due.NONE;
        int most = -1;
        for (int i = 0; i < s.ways.size(); i++) {
            Integer best = s.best(from, to, i);
            int minutes = best == null ? 999 : best;
            if (minutes > most) {
                bit = i;
                most = minutes;
            }
        }
        return bit;
    }

    int reach(int from, int m) {
        if (!in(from, 0, 7) || !in(m, 0, 999)) {
            return Due.BAD;
        }
        int all = 0;
        for (int i = 0; i < 8; i++) {
            Integer best = s.best(from, i, -1);
            all += best != null && best <= m ? 1 << i : 0;
        }
        return all;
    }

    int ever(int from, int to, int n) {
        if (!spots(from, to) || !in(n, 1, 40)) {
            return Due.BAD;
        }
        State t = s.again();
        int all = 0;
        for (int i = 0; i < n; i++) {
            t.walk(from, to);
            for (int b : t.tried) {
                all |= 1 << b;
            }
        }
        return all;
    }

    int wrong(int sheet) {
        if (!in(sheet, 0, 3)) {
            return Due.BAD;
        }
        if (sheets[sheet] == null) {
            return Due.NOTHING;
        }
        int all = 0;
        Integer[] p = sheets[sheet].places();
        for (int k = 0; k < p.length; k++) {
            if (p[k] != null) {
                all += Math.abs(k < s.ways.size() ? p[k] - s.takes(s.ways.get(k)) : p[k]);
            }
        }
        return all;
    }

    int fine() {
        return s.counts[2] == null ? s.spent : s.laws.get(s.counts[2]).value(s.spent, s.walks);
    }

    int feed(int a, int b, int c) {
        if (tape.length() + 12 > 96) {
            return Due.FULL;
        }
        StringBuilder all = new StringBuilder(tape);
        for (int v : new int[] {a, b, c}) {
            for (int shift = 24; shift >= 0; shift -= 8) {
                all.append((char) (v >>> shift & 255));
            }
        }
        tape = all.toString();
        return tape.length();
    }

    int trim(int n) {
        if (!in(n, 0, tape.length())) {
            return Due.BAD;
        }
        tape = tape.substring(0, n);
        return n;
    }

    int text() {
        String bytes = tape;
        tape = "";
        int fault = fault(bytes);
        if (fault >= 0) {
            return -100 - fault;
        }
        if (s.laws.size() == 14) {
            return Due.FULL;
        }
        List<String> tokens = new ArrayList<>();
        Matcher m = WORDS.matcher(bytes);
        while (m.find()) {
            tokens.add(m.group());
        }
        int key = KEYS.indexOf(tokens.remove(0));
        s.laws.add(new Law(key, tokens));
        s.counts[key] = s.laws.size() - 1;
        return s.laws.size() - 1;
    }

    private static final Pattern WORDS = Pattern.compile("[a-z]+|[0-9]+|[^ ]");
    private static final List<String> KEYS = Arrays.asList("take", "think", "fine");

    /** The place of the fault, or -1. open: '!', '(' and, on a '(' whose test has its sign, '['. */
    static int fault(String bytes) {
        Matcher m = WORDS.matcher(bytes);
        Deque<Character> open = new ArrayDeque<>();
        open.push('{');
        int key = -1;
        boolean wantsPiece = true;
        int wordEnd = -1;
        while (m.find()) {
            String t = m.group();
            boolean word = t.matches("[a-z]+|[0-9]+");
            if (word && m.start() == wordEnd) {
                return m.start();
            }
            wordEnd = word ? m.end() : -1;
            if (key < 0) {
                key = KEYS.indexOf(t);
                if (key < 0) {
                    return m.start();
                }
            } else if (wantsPiece) {
                if (t.equals("!") || t.equals("(")) {
                    long depth = open.stream().filter(o -> o == t.charAt(0) || t.equals("(") && o == '[').count();
                    if (depth == 8) {
                        return m.start();
                    }
                    open.push(t.charAt(0));
                } else if (t.matches("[0-9]{1,4}") || t.matches("[a-z]") && namesOf(key).contains(t)) {
                    wantsPiece = false;
                    closeNots(open);
                } else {
                    return m.start();
                }
            } else if (t.equals(")")) {
                if (open.peek() != '(' && open.peek() != '[') {
                    return m.start();
                }
                open.pop();
                closeNots(open);
            } else if ("+-*/".contains(t)) {
                wantsPiece = true;
            } else if ("&|".contains(t)) {
                wantsPiece = true;
                char top = open.pop();
                open.push(top == '[' ? '(' : top == '}' ? '{' : top);
            } else if ("<=>".contains(t) && (open.peek() == '(' || open.peek() == '{')) {
                wantsPiece = true;
                char top = open.pop();
                open.push(top == '(' ? '[' : '}');
            } else {
                return m.start();
            }
        }
        boolean whole = key >= 0 && !wantsPiece && open.size() == 1;
        return whole ? -1 : bytes.length();
    }

    private static void closeNots(Deque<Character> open) {
        while (open.peek() == '!') {
            open.pop();
        }
    }

    int textTold(int text, int what) {
        if (!in(text, 0, s.laws.size() - 1) || !in(what, 0, 1)) {
            return Due.BAD;
        }
        Law law = s.laws.get(text);
        return what == 0 ? law.key() : law.operands();
    }

    int why(int key) {
        if (!in(key, 0, 2)) {
            return Due.BAD;
        }
        return s.counts[key] == null ? Due.NONE : s.counts[key];
    }

    int sheet(int sheet, int sort, int n) {
        if (!in(sheet, 0, 3) || !in(sort, -1, 1) || sort != -1 && n > 24) {
            return Due.BAD;
        }
        if (sort == -1) {
            sheets[sheet] = null;
            return 0;
        }
        if (n < 0) {
            return Due.SIZE;
        }
        Integer[] places = new Integer[n];
        Arrays.fill(places, 0);
        sheets[sheet] = new Row(sort, places);
        return n;
    }

    int mark(int sheet, int place, int v) {
        if (!in(sheet, 0, 3)) {
            return Due.BAD;
        }
        Row r = sheets[sheet];
        if (r == null) {
            return Due.NOTHING;
        }
        if (!in(place, 0, r.places().length - 1)) {
            return Due.INDEX;
        }
        if (r.sort() == 0 && v == Due.NONE) {
            return Due.KIND;
        }
        if (r.sort() == 1 && v != Due.NONE && !in(v, -99999, 99999)) {
            return Due.BAD;
        }
        r.places()[place] = v == Due.NONE ? null : r.sort() == 0 ? Integer.valueOf(v << 16 >> 16) : Integer.valueOf(v);
        return 1;
    }

    int pour(int sheet) {
        if (!in(sheet, 0, 3)) {
            return Due.BAD;
        }
        if (sheets[sheet] == null) {
            return Due.NOTHING;
        }
        int otherwise = 0;
        for (int k = 0; k < s.ways.size(); k++) {
            Integer[] p = sheets[sheet].places();
            if (k < p.length && p[k] != null) {
                Integer was = s.ways.get(k).said;
                s.ways.get(k).said = held(p[k], 0, 999);
                otherwise += s.ways.get(k).said.equals(was) ? 0 : 1;
            }
        }
        return otherwise;
    }

    int reads(int sheet) {
        if (!in(sheet, 0, 3)) {
            return Due.BAD;
        }
        if (sheets[sheet] == null) {
            return Due.NOTHING;
        }
        Integer[] p = sheets[sheet].places();
        for (int k = 0; k < p.length; k++) {
            if (p[k] != null && (k >= s.tried.size() || !p[k].equals(s.tried.get(k)))) {
                return k;
            }
        }
        return Due.NONE;
    }

    int copy(int from, int place, int to, int at, int many) {
        if (!in(from, 0, 3) || !in(to, 0, 3)) {
            return Due.BAD;
        }
        Row a = sheets[from];
        Row b = sheets[to];
        if (a == null || b == null) {
            return Due.NOTHING;
        }
        if (a.sort() != b.sort()) {
            return Due.KIND;
        }
        boolean bad = many < 0 || place < 0 || at < 0
            || (long) place + many > a.places().length || (long) at + many > b.places().length;
        if (bad) {
            return Due.INDEX;
        }
        Integer[] were = a.places().clone();
        for (int i = 0; i < many; i++) {
            b.places()[at + i] = were[place + i];
        }
        return many;
    }

    int lay(int slot, int thing, int k) {
        if (!in(slot, 0, 4) || !in(thing, 0, 3) || thing == 1 && !has(k) || thing == 2 && !in(k, 0, 3)) {
            return Due.BAD;
        }
        if (thing == 2 && sheets[k] == null) {
            return Due.NOTHING;
        }
        Object was = slots[slot];
        if (thing == 0) {
            slots[slot] = null;
        } else if (thing == 1) {
            slots[slot] = s.ways.get(k).again();
        } else if (thing == 2) {
            slots[slot] = sheets[k].again();
        } else {
            slots[slot] = k;
        }
        return was == null ? 0 : was instanceof Way ? 1 : was instanceof Row ? 2 : 3;
    }

    int ask(int slot, int kind) {
        if (!in(slot, 0, 4) || !in(kind, 0, 5)) {
            return Due.BAD;
        }
        if (slots[slot] == null) {
            return Due.NOTHING;
        }
        return slots[slot] instanceof Way w && w.under(kind) ? w.worth() : Due.KIND;
    }

    int item(int slot, int place) {
        if (!in(slot, 0, 4)) {
            return Due.BAD;
        }
        if (slots[slot] == null) {
            return Due.NOTHING;
        }
        if (!(slots[slot] instanceof Row r)) {
            return Due.KIND;
        }
        if (!in(place, 0, r.places().length - 1)) {
            return Due.INDEX;
        }
        return r.places()[place] == null ? Due.KIND : r.places()[place];
    }

    int rest(int slot, int n) {
        if (!in(slot, 0, 4)) {
            return Due.BAD;
        }
        if (slots[slot] == null) {
            return Due.NOTHING;
        }
        if (!(slots[slot] instanceof Integer k)) {
            return Due.KIND;
        }
        return n == 0 ? Due.NO : (int) ((long) k % n);
    }

    int tell(int v) {
        if (waiting.size() == 60) {
            return Due.FULL;
        }
        waiting.add(v);
        return waiting.size();
    }

    int check(int from, int to, int n) {
        List<Integer> told = new ArrayList<>(waiting);
        waiting.clear();
        if (!spots(from, to) || !in(n, 1, 30)) {
            return Due.BAD;
        }
        if (image == null) {
            return Due.NO;
        }
        List<Integer> due = walksTold(from, to, n);
        if (due.equals(told)) {
            return 0;
        }
        int right = 0;
        while (right < due.size() && right < told.size() && due.get(right).equals(told.get(right))) {
            right++;
        }
        return 1 + right;
    }

    /** What check would find right; there is an image. */
    List<Integer> walksTold(int from, int to, int n) {
        State t = image.again();
        List<Integer> due = new ArrayList<>();
        for (int i = 0; i < n; i++) {
            due.add(t.walk(from, to));
            due.add(t.trodden());
        }
        return due;
    }

    boolean hasImage() {
        return image != null;
    }

    int keep() {
        image = s.again();
        return image.ways.size();
    }

    int back() {
        if (image == null) {
            return Due.NO;
        }
        s = image.again();
        return s.ways.size();
    }

    int count(int what) {
        if (!in(what, 0, 10)) {
            return Due.BAD;
        }
        int said = (int) s.ways.stream().filter(w -> w.said != null).count();
        int[] all = {s.ways.size(), s.walks, s.spent, s.wet, s.guess, s.trodden(), said,
            s.laws.size(), waiting.size(), tape.length(), s.z};
        return all[what];
    }
}
