/** Promises 29 to 37. */
public final class SheetsTest {
    private static final Due due = new Due();

    public static void main(String[] args) {
        sheet();
        mark();
        pour();
        reads();
        copy();
        lay();
        ask();
        item();
        rest();
        due.end("SheetsTest");
    }

    private static int at(ShortCut x, int sheet, int place) {
        x.lay(4, 2, sheet);
        return x.item(4, place);
    }

    private static void sheet() {
        ShortCut x = new ShortCut();
        due.is("29 shorts", x.sheet(0, 0, 24), 24);
        due.is("29 floats", x.sheet(3, 1, 24), 24);
        due.is("29 no places", x.sheet(1, 0, 0), 0);
        due.is("29 sheet below", x.sheet(-1, 0, 1), Due.BAD);
        due.is("29 sheet above", x.sheet(4, 0, 1), Due.BAD);
        due.is("29 sort below", x.sheet(0, -2, 1), Due.BAD);
        due.is("29 sort above", x.sheet(0, 2, 1), Due.BAD);
        due.is("29 n above", x.sheet(0, 0, 25), Due.BAD);
        due.is("29 n below", x.sheet(0, 0, -1), Due.SIZE);
        due.is("29 BAD stands ahead of SIZE", x.sheet(4, 0, -1), Due.BAD);
        due.is("29 BAD stands ahead of SIZE", x.sheet(0, 2, -1), Due.BAD);
        due.is("29 far below", x.sheet(0, 1, Integer.MIN_VALUE), Due.SIZE);
        due.is("29 refused ones change nothing", at(x, 0, 23), 0);
        x.mark(0, 23, 5);
        due.is("29 marked", at(x, 0, 23), 5);
        x.sheet(0, 0, 24);
        due.is("29 all 0 again", at(x, 0, 23), 0);
        due.is("29 MISSING, n far above", x.sheet(0, -1, Integer.MAX_VALUE), 0);
        due.is("29 MISSING", x.wrong(0), Due.NOTHING);
        due.is("29 MISSING, n below", x.sheet(0, -1, -7), 0);
        due.is("29 MISSING, sheet above", x.sheet(4, -1, 0), Due.BAD);
    }

    private static void mark() {
        ShortCut x = new ShortCut();
        x.sheet(0, 0, 2);
        x.sheet(1, 1, 2);
        due.is("30 a short", x.mark(0, 1, 32767), 1);
        due.is("30 a short", at(x, 0, 1), 32767);
        x.mark(0, 1, 32768);
        due.is("30 its lowest 16 bits", at(x, 0, 1), -32768);
        x.mark(0, 1, 65535 + 65536 * 7);
        due.is("30 its lowest 16 bits", at(x, 0, 1), -1);
        x.mark(0, 0, Integer.MIN_VALUE);
        due.is("30 its lowest 16 bits", at(x, 0, 0), 0);
        due.is("30 NONE in shorts", x.mark(0, 0, Due.NONE), Due.KIND);
        due.is("30 BAD of other answers is a number", x.mark(0, 0, Due.BAD), 1);
        due.is("30 its lowest 16 bits", at(x, 0, 0), (short) Due.BAD);
        due.is("30 a float", x.mark(1, 0, 99999), 1);
        due.is("30 a float", x.mark(1, 1, -99999), 1);
        due.is("30 a float", at(x, 1, 0), 99999);
        due.is("30 a float", at(x, 1, 1), -99999);
        due.is("30 v above", x.mark(1, 0, 100000), Due.BAD);
        due.is("30 v below", x.mark(1, 0, -100000), Due.BAD);
        due.is("30 nothing changed", at(x, 1, 0), 99999);
        due.is("30 NO NUMBER", x.mark(1, 0, Due.NONE), 1);
        due.is("30 NO NUMBER", at(x, 1, 0), Due.KIND);
        due.is("30 a number again", x.mark(1, 0, 3), 1);
        due.is("30 a number again", at(x, 1, 0), 3);
        due.is("30 sheet below", x.mark(-1, 0, 0), Due.BAD);
        due.is("30 sheet above", x.mark(4, 0, 0), Due.BAD);
        due.is("30 missing", x.mark(2, 0, 0), Due.NOTHING);
        due.is("30 place below", x.mark(0, -1, 0), Due.INDEX);
        due.is("30 place above", x.mark(0, 2, 0), Due.INDEX);
        due.is("30 NOTHING stands ahead of INDEX", x.mark(2, 99, 0), Due.NOTHING);
        due.is("30 INDEX stands ahead of KIND", x.mark(0, 2, Due.NONE), Due.INDEX);
        due.is("30 INDEX stands ahead of BAD", x.mark(1, 2, 100000), Due.INDEX);
    }

    private static void pour() {
        ShortCut x = new ShortCut();
        x.sheet(0, 1, 3);
        due.is("31 no bits", x.pour(0), 0);
        for (int i = 0; i < 5; i++) {
            x.bit(0, 0, 1, 10);
        }
        x.mark(0, 0, -4);
        x.mark(0, 1, Due.NONE);
        x.mark(0, 2, 1000);
        x.set(1, 5, 77);
        x.set(3, 5, 78);
        due.is("31 two are otherwise", x.pour(0), 2);
        int[] said = {0, 77, 999, 78, Due.NONE};
        for (int i = 0; i < 5; i++) {
            due.is("31 SAID of " + i, x.told(i, 5), said[i]);
        }
        due.is("31 none are otherwise", x.pour(0), 0);
        x.mark(0, 2, 998);
        due.is("31 one is otherwise", x.pour(0), 1);
        x.sheet(1, 0, 24);
        due.is("31 more places than bits", x.pour(1), 4);
        due.is("31 how many are SAID", x.count(6), 5);
        due.is("31 missing", x.pour(2), Due.NOTHING);
        due.is("31 below", x.pour(-1), Due.BAD);
        due.is("31 above", x.pour(4), Due.BAD);
    }

    private static void reads() {
        ShortCut x = new ShortCut();
        x.sheet(0, 0, 3);
        x.sheet(1, 1, 4);
        x.sheet(3, 0, 0);
        due.is("32 there was no walk", x.reads(0), 0);
        due.is("32 no places", x.reads(3), Due.NONE);
        x.bit(0, 0, 1, 10);
        x.bit(0, 1, 2, 10);
        x.bit(0, 2, 3, 10);
        x.walk(3, 0);
        due.is("32 the first", x.reads(0), 0);
        x.mark(0, 0, 2);
        due.is("32 the second", x.reads(0), 1);
        x.mark(0, 1, 1);
        due.is("32 there is none", x.reads(0), Due.NONE);
        x.mark(1, 0, Due.NONE);
        x.mark(1, 1, 1);
        x.mark(1, 2, 0);
        due.is("32 no try", x.reads(1), 3);
        x.mark(1, 3, Due.NONE);
        due.is("32 numbers alone", x.reads(1), Due.NONE);
        x.walk(0, 0);
        due.is("32 no tries", x.reads(1), 1);
        due.is("32 missing", x.reads(2), Due.NOTHING);
        due.is("32 below", x.reads(-1), Due.BAD);
        due.is("32 above", x.reads(4), Due.BAD);
    }

    private static void copy() {
        ShortCut x = new ShortCut();
        x.sheet(0, 0, 5);
        x.sheet(1, 0, 3);
        x.sheet(2, 1, 5);
        for (int i = 0; i < 5; i++) {
            x.mark(0, i, 10 + i);
            x.mark(2, i, i == 1 ? Due.NONE : 20 + i);
        }
        due.is("33 to another", x.copy(0, 2, 1, 0, 3), 3);
        due.is("33 first", at(x, 1, 0), 12);
        due.is("33 last", at(x, 1, 2), 14);
        due.is("33 the same, on", x.copy(0, 0, 0, 1, 4), 4);
        for (int i = 0; i < 5; i++) {
            due.is("33 as they were", at(x, 0, i), i == 0 ? 10 : 9 + i);
        }
        due.is("33 the same, back", x.copy(2, 1, 2, 0, 4), 4);
        due.is("33 NO NUMBER too", at(x, 2, 0), Due.KIND);
        due.is("33 as they were", at(x, 2, 1), 22);
        due.is("33 as they were", at(x, 2, 3), 24);
        due.is("33 the last stays", at(x, 2, 4), 24);
        due.is("33 none, behind the last ones", x.copy(0, 5, 1, 3, 0), 0);
        due.is("33 none, beyond", x.copy(0, 6, 1, 0, 0), Due.INDEX);
        due.is("33 none, beyond", x.copy(0, 0, 1, 4, 0), Due.INDEX);
        due.is("33 none, below", x.copy(0, -1, 1, 0, 0), Due.INDEX);
        due.is("33 none, below", x.copy(0, 0, 1, -1, 0), Due.INDEX);
        due.is("33 many below", x.copy(0, 1, 1, 1, -1), Due.INDEX);
        due.is("33 one too many there", x.copy(0, 3, 1, 0, 3), Due.INDEX);
        due.is("33 one too many here", x.copy(0, 0, 1, 1, 3), Due.INDEX);
        due.is("33 far beyond", x.copy(0, 1, 1, 1, Integer.MAX_VALUE), Due.INDEX);
        due.is("33 far beyond", x.copy(0, Integer.MAX_VALUE, 1, 1, 1), Due.INDEX);
        due.is("33 not of one sort", x.copy(0, 0, 2, 0, 1), Due.KIND);
        due.is("33 KIND stands ahead of INDEX", x.copy(0, 9, 2, 0, 1), Due.KIND);
        due.is("33 missing", x.copy(0, 0, 3, 0, 1), Due.NOTHING);
        due.is("33 missing", x.copy(3, 0, 0, 0, 1), Due.NOTHING);
        due.is("33 NOTHING stands ahead of INDEX", x.copy(3, 0, 0, 0, -1), Due.NOTHING);
        due.is("33 from below", x.copy(-1, 0, 0, 0, 1), Due.BAD);
        due.is("33 from above", x.copy(4, 0, 0, 0, 1), Due.BAD);
        due.is("33 to below", x.copy(0, 0, -1, 0, 1), Due.BAD);
        due.is("33 to above", x.copy(0, 0, 4, 0, 1), Due.BAD);
        due.is("33 BAD stands ahead of NOTHING", x.copy(3, 0, 4, 0, 1), Due.BAD);
    }

    private static void lay() {
        ShortCut x = new ShortCut();
        x.bit(1, 0, 1, 10);
        x.sheet(0, 0, 1);
        due.is("34 a bit", x.lay(0, 1, 0), 0);
        due.is("34 a sheet", x.lay(0, 2, 0), 1);
        due.is("34 a number", x.lay(0, 3, Integer.MIN_VALUE), 2);
        due.is("34 nothing, k any", x.lay(0, 0, -77), 3);
        due.is("34 nothing", x.lay(0, 0, 0), 0);
        due.is("34 slot below", x.lay(-1, 0, 0), Due.BAD);
        due.is("34 slot above", x.lay(5, 0, 0), Due.BAD);
        due.is("34 the last slot", x.lay(4, 3, 0), 0);
        due.is("34 thing below", x.lay(0, -1, 0), Due.BAD);
        due.is("34 thing above", x.lay(0, 4, 0), Due.BAD);
        due.is("34 bit below", x.lay(4, 1, -1), Due.BAD);
        due.is("34 bit above", x.lay(4, 1, 1), Due.BAD);
        due.is("34 sheet below", x.lay(4, 2, -1), Due.BAD);
        due.is("34 sheet above", x.lay(4, 2, 4), Due.BAD);
        due.is("34 missing", x.lay(4, 2, 1), Due.NOTHING);
        due.is("34 it holds what it held", x.lay(4, 3, 1), 3);
    }

    private static void ask() {
        ShortCut x = new ShortCut();
        x.bit(3, 0, 1, 10);
        x.lay(0, 1, 0);
        x.lay(1, 3, 5);
        x.sheet(0, 0, 1);
        x.lay(2, 2, 0);
        x.set(0, 3, 50);
        x.turns(0, 5);
        for (int kind = 0; kind < 6; kind++) {
            boolean is = kind == 0 || kind == 1 || kind == 3;
            due.is("35 as it was then, by its own KIND", x.ask(0, kind), is ? 28 : Due.KIND);
        }
        due.is("35 a number", x.ask(1, 0), Due.KIND);
        due.is("35 a sheet", x.ask(2, 0), Due.KIND);
        due.is("35 nothing", x.ask(3, 0), Due.NOTHING);
        due.is("35 BAD stands ahead of NOTHING", x.ask(3, 6), Due.BAD);
        due.is("35 kind below", x.ask(0, -1), Due.BAD);
        due.is("35 slot below", x.ask(-1, 0), Due.BAD);
        due.is("35 slot above", x.ask(5, 0), Due.BAD);
        x.keep();
        x.back();
        due.is("35 for good", x.ask(0, 0), 28);
    }

    private static void item() {
        ShortCut x = new ShortCut();
        x.sheet(0, 1, 3);
        x.mark(0, 1, 8);
        x.mark(0, 2, Due.NONE);
        x.lay(0, 2, 0);
        x.mark(0, 1, 9);
        due.is("36 first", x.item(0, 0), 0);
        due.is("36 as it was then", x.item(0, 1), 8);
        due.is("36 NO NUMBER", x.item(0, 2), Due.KIND);
        due.is("36 above", x.item(0, 3), Due.INDEX);
        due.is("36 below", x.item(0, -1), Due.INDEX);
        x.sheet(0, -1, 0);
        due.is("36 a row of its own", x.item(0, 1), 8);
        x.lay(1, 3, 4);
        due.is("36 a number", x.item(1, 0), Due.KIND);
        due.is("36 KIND stands ahead of INDEX", x.item(1, -1), Due.KIND);
        x.bit(0, 0, 1, 1);
        x.lay(1, 1, 0);
        due.is("36 a bit", x.item(1, 0), Due.KIND);
        due.is("36 nothing", x.item(2, 0), Due.NOTHING);
        due.is("36 slot below", x.item(-1, 0), Due.BAD);
        due.is("36 slot above", x.item(5, 0), Due.BAD);
    }

    private static void rest() {
        ShortCut x = new ShortCut();
        x.lay(0, 3, 17);
        due.is("37 rest", x.rest(0, 5), 2);
        due.is("37 by one below 0", x.rest(0, -5), 2);
        due.is("37 by 0", x.rest(0, 0), Due.NO);
        x.lay(0, 3, -17);
        due.is("37 of one below 0", x.rest(0, 5), -2);
        x.lay(0, 3, Integer.MIN_VALUE);
        due.is("37 the least by -1", x.rest(0, -1), 0);
        x.sheet(0, 0, 1);
        x.lay(1, 2, 0);
        due.is("37 a sheet", x.rest(1, 5), Due.KIND);
        due.is("37 KIND stands ahead of NO", x.rest(1, 0), Due.KIND);
        x.bit(0, 0, 1, 1);
        x.lay(1, 1, 0);
        due.is("37 a bit", x.rest(1, 5), Due.KIND);
        due.is("37 nothing", x.rest(2, 0), Due.NOTHING);
        due.is("37 slot below", x.rest(-1, 0), Due.BAD);
        due.is("37 slot above", x.rest(5, 0), Due.BAD);
    }
}
