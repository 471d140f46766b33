/** Promises 1 to 9. */
public final class BitsTest {
    private static final Due due = new Due();

    public static void main(String[] args) {
        newObject();
        bit();
        told();
        takes();
        barred();
        worth();
        as();
        turns();
        set();
        rule();
        deal();
        seed();
        due.end("BitsTest");
    }

    private static void newObject() {
        ShortCut x = new ShortCut();
        int[] counts = {0, 0, 0, 0, 20, 0, 0, 0, 0, 0, 1};
        for (int what = 0; what < counts.length; what++) {
            due.is("1 count(" + what + ")", x.count(what), counts[what]);
        }
        due.is("1 told(0, 0)", x.told(0, 0), Due.BAD);
        due.is("1 latest(0)", x.latest(0), Due.NONE);
        due.is("1 fine()", x.fine(), 0);
        due.is("1 back()", x.back(), Due.NO);
        for (int i = 0; i < 3; i++) {
            due.is("1 why", x.why(i), Due.NONE);
        }
        for (int i = 0; i < 4; i++) {
            due.is("1 wrong", x.wrong(i), Due.NOTHING);
        }
        for (int i = 0; i < 5; i++) {
            due.is("1 rest", x.rest(i, 1), Due.NOTHING);
        }
    }

    private static void bit() {
        ShortCut x = new ShortCut();
        due.is("2 least", x.bit(0, 0, 7, 1), 0);
        due.is("2 greatest", x.bit(5, 7, 0, 99), 1);
        due.is("2 kind below", x.bit(-1, 0, 1, 1), Due.BAD);
        due.is("2 kind above", x.bit(6, 0, 1, 1), Due.BAD);
        due.is("2 from below", x.bit(0, -1, 1, 1), Due.BAD);
        due.is("2 from above", x.bit(0, 8, 1, 1), Due.BAD);
        due.is("2 to below", x.bit(0, 1, -1, 1), Due.BAD);
        due.is("2 to above", x.bit(0, 1, 8, 1), Due.BAD);
        due.is("2 one spot", x.bit(0, 3, 3, 1), Due.BAD);
        due.is("2 short", x.bit(0, 0, 1, 0), Due.BAD);
        due.is("2 long", x.bit(0, 0, 1, 100), Due.BAD);
        due.is("2 refused ones are none", x.count(0), 2);
        for (int i = 2; i < 14; i++) {
            due.is("2 the same again", x.bit(0, 0, 7, 1), i);
        }
        due.is("2 full", x.bit(0, 0, 7, 1), Due.FULL);
        due.is("2 BAD stands ahead of FULL", x.bit(0, 0, 7, 0), Due.BAD);
        due.is("2 still 14", x.count(0), 14);
    }

    private static void told() {
        ShortCut x = new ShortCut();
        x.bit(3, 6, 2, 41);
        int[] all = {3, 6, 2, 41, 0, Due.NONE, 20, 0, 20, 90};
        for (int what = 0; what < all.length; what++) {
            due.is("3 told(0, " + what + ")", x.told(0, what), all[what]);
        }
        due.is("3 what below", x.told(0, -1), Due.BAD);
        due.is("3 what above", x.told(0, 10), Due.BAD);
        due.is("3 bit below", x.told(-1, 0), Due.BAD);
        due.is("3 bit above", x.told(1, 0), Due.BAD);
        x.set(0, 5, 0);
        due.is("3 SAID 0", x.told(0, 5), 0);
        due.is("3 THINKS 1 at least", x.told(0, 8), 1);
        x.set(0, 5, 999);
        due.is("3 THINKS", x.told(0, 8), 999);
    }

    private static void takes() {
        ShortCut x = new ShortCut();
        for (int kind = 0; kind < 6; kind++) {
            x.bit(kind, 0, 1, 31);
            x.set(kind, 4, 6);
        }
        int[] dry = {31, 25, 31, 12, 31, 31};
        int[] wet = {31, 25, 62, 12, 62, 31};
        for (int kind = 0; kind < 6; kind++) {
            due.is("3 TAKES of " + kind, x.told(kind, 6), dry[kind]);
        }
        x.rule(0, 1);
        for (int kind = 0; kind < 6; kind++) {
            due.is("3 wet TAKES of " + kind, x.told(kind, 6), wet[kind]);
        }
        x.set(1, 4, 30);
        x.set(3, 4, 30);
        due.is("3 TRACK at 1", x.told(1, 6), 1);
        due.is("3 PATH at 1", x.told(3, 6), 1);
        x.set(1, 4, 999);
        x.set(3, 4, 999);
        due.is("3 TRACK 1 at least", x.told(1, 6), 1);
        due.is("3 PATH 1 at least", x.told(3, 6), 1);
        Due.putText(x, "take l*100");
        int[] most = {999, 1, 1998, 1, 1998, 31};
        for (int kind = 0; kind < 6; kind++) {
            due.is("3 held TAKES of " + kind, x.told(kind, 6), most[kind]);
        }
        x.set(1, 4, 998);
        x.set(3, 4, 996);
        due.is("3 TRACK of 999", x.told(1, 6), 1);
        due.is("3 PATH of 999", x.told(3, 6), 1);
        x.set(3, 4, 994);
        due.is("3 PATH is half, cut", x.told(3, 6), 2);
        Due.putText(x, "take 0-5");
        due.is("3 held at 1", x.told(0, 6), 1);
        due.is("3 held at 1, twice", x.told(2, 6), 2);
        due.is("3 ROAD has no text", x.told(5, 6), 31);
    }

    private static void barred() {
        ShortCut x = new ShortCut();
        for (int kind = 0; kind < 6; kind++) {
            x.bit(kind, 0, 1, 90);
        }
        for (int kind = 0; kind < 6; kind++) {
            due.is("3 BARRED at 90, " + kind, x.told(kind, 7), 0);
            x.set(kind, 3, 91);
            due.is("3 BARRED at 91, " + kind, x.told(kind, 7), kind == 1 || kind == 3 ? 1 : 0);
        }
        x.rule(0, 1);
        for (int kind = 0; kind < 6; kind++) {
            due.is("3 BARRED if wet, " + kind, x.told(kind, 7), kind == 1 || kind == 3 || kind == 4 ? 1 : 0);
        }
    }

    private static void worth() {
        ShortCut x = new ShortCut();
        int[] all = {99, 103, 0, 206, -6, 60};
        int[] least = {1, 5, 98, 10, 92, 60};
        for (int kind = 0; kind < 6; kind++) {
            x.bit(kind, 0, 1, 99);
            due.is("3 WORTH of " + kind, x.told(kind, 9), all[kind]);
            x.set(kind, 3, 1);
            due.is("3 WORTH of " + kind, x.told(kind, 9), least[kind]);
        }
    }

    private static void as() {
        ShortCut x = new ShortCut();
        String[] under = {"0", "01", "02", "013", "024", "05"};
        for (int kind = 0; kind < 6; kind++) {
            x.bit(kind, 0, 1, 10 + kind);
            for (int k = 0; k < 6; k++) {
                boolean is = under[kind].indexOf('0' + k) >= 0;
                due.is("4 as(" + kind + ", " + k + ")", x.as(kind, k), is ? 10 + kind : Due.KIND);
            }
        }
        due.is("4 kind below", x.as(0, -1), Due.BAD);
        due.is("4 kind above", x.as(0, 6), Due.BAD);
        due.is("4 bit below", x.as(-1, 0), Due.BAD);
        due.is("4 bit above", x.as(6, 0), Due.BAD);
    }

    private static void turns() {
        ShortCut x = new ShortCut();
        x.bit(2, 0, 1, 10);
        x.set(0, 4, 3);
        x.set(0, 5, 8);
        due.is("5 turns", x.turns(0, 5), 2);
        due.is("5 the same", x.turns(0, 5), 5);
        due.is("5 back to BIT", x.turns(0, 0), 5);
        due.is("5 to TRACK", x.turns(0, 1), 0);
        due.is("5 told", x.told(0, 0), 1);
        due.is("5 TRODDEN stays", x.told(0, 6), 7);
        due.is("5 SAID stays", x.told(0, 5), 8);
        due.is("5 kind below", x.turns(0, -1), Due.BAD);
        due.is("5 kind above", x.turns(0, 6), Due.BAD);
        due.is("5 bit below", x.turns(-1, 0), Due.BAD);
        due.is("5 bit above", x.turns(1, 0), Due.BAD);
        due.is("5 nothing changed", x.told(0, 0), 1);
    }

    private static void set() {
        ShortCut x = new ShortCut();
        x.bit(0, 0, 1, 10);
        due.is("6 LONG least", x.set(0, 3, 1), 10);
        due.is("6 LONG greatest", x.set(0, 3, 99), 1);
        due.is("6 LONG below", x.set(0, 3, 0), Due.BAD);
        due.is("6 LONG above", x.set(0, 3, 100), Due.BAD);
        due.is("6 LONG NONE", x.set(0, 3, Due.NONE), Due.BAD);
        due.is("6 LONG", x.told(0, 3), 99);
        due.is("6 TRODDEN greatest", x.set(0, 4, 999), 0);
        due.is("6 TRODDEN least", x.set(0, 4, 0), 999);
        due.is("6 TRODDEN below", x.set(0, 4, -1), Due.BAD);
        due.is("6 TRODDEN above", x.set(0, 4, 1000), Due.BAD);
        due.is("6 TRODDEN NONE", x.set(0, 4, Due.NONE), Due.BAD);
        due.is("6 TRODDEN", x.told(0, 4), 0);
        due.is("6 SAID least", x.set(0, 5, 0), Due.NONE);
        due.is("6 SAID greatest", x.set(0, 5, 999), 0);
        due.is("6 SAID below", x.set(0, 5, -1), Due.BAD);
        due.is("6 SAID above", x.set(0, 5, 1000), Due.BAD);
        due.is("6 SAID", x.told(0, 5), 999);
        due.is("6 SAID nothing", x.set(0, 5, Due.NONE), 999);
        due.is("6 SAID nothing", x.told(0, 5), Due.NONE);
        due.is("6 what below", x.set(0, 2, 1), Due.BAD);
        due.is("6 what above", x.set(0, 6, 1), Due.BAD);
        due.is("6 bit below", x.set(-1, 3, 1), Due.BAD);
        due.is("6 bit above", x.set(1, 3, 1), Due.BAD);
    }

    private static void rule() {
        ShortCut x = new ShortCut();
        due.is("7 WET", x.rule(0, 1), 0);
        due.is("7 WET", x.rule(0, 0), 1);
        due.is("7 WET below", x.rule(0, -1), Due.BAD);
        due.is("7 WET above", x.rule(0, 2), Due.BAD);
        due.is("7 GUESS", x.rule(1, 1), 20);
        due.is("7 GUESS", x.rule(1, 99), 1);
        due.is("7 GUESS below", x.rule(1, 0), Due.BAD);
        due.is("7 GUESS above", x.rule(1, 100), Due.BAD);
        due.is("7 what below", x.rule(-1, 1), Due.BAD);
        due.is("7 what above", x.rule(2, 1), Due.BAD);
        due.is("7 WET stays", x.count(3), 0);
        due.is("7 GUESS stays", x.count(4), 99);
    }

    private static void deal() {
        ShortCut x = new ShortCut();
        due.is("8 below", x.deal(0), Due.BAD);
        due.is("8 above", x.deal(15), Due.BAD);
        due.is("8 no draws", x.count(10), 1);
        due.is("8 one", x.deal(1), 1);
        int z = 1;
        int[] drawn = new int[4];
        for (int i = 0; i < 4; i++) {
            z = z * 1103515245 + 12345;
            drawn[i] = z >>> 8;
        }
        due.is("8 KIND", x.told(0, 0), drawn[0] % 6);
        due.is("8 one SPOT", x.told(0, 1), drawn[1] % 8);
        due.is("8 the other", x.told(0, 2), (drawn[1] % 8 + 1 + drawn[2] % 7) % 8);
        due.is("8 LONG", x.told(0, 3), 1 + drawn[3] % 40);
        due.is("8 TRODDEN", x.told(0, 4), 0);
        due.is("8 SAID", x.told(0, 5), Due.NONE);
        due.is("8 four draws", x.count(10), z);
        due.is("8 room for 13", x.deal(14), 13);
        int behind = x.count(10);
        due.is("8 no room", x.deal(14), 0);
        due.is("8 no draws without room", x.count(10), behind);
    }

    private static void seed() {
        ShortCut x = new ShortCut();
        due.is("9 first", x.seed(Integer.MIN_VALUE), 1);
        due.is("9 least", x.seed(Integer.MAX_VALUE), Integer.MIN_VALUE);
        due.is("9 greatest", x.seed(0), Integer.MAX_VALUE);
        x.deal(1);
        due.is("9 draws go on from it", x.told(0, 0), (12345 >>> 8) % 6);
    }
}
