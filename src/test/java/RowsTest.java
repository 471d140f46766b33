/** Promises 38 to 42. */
public final class RowsTest {
    private static final Due due = new Due();

    public static void main(String[] args) {
        tell();
        check();
        checkGoesByTheImage();
        checkOfThirty();
        keep();
        back();
        backToTheFirst();
        backToFull();
        count();
        due.end("RowsTest");
    }

    private static void tell() {
        ShortCut x = new ShortCut();
        for (int i = 1; i <= 60; i++) {
            due.is("38 tell", x.tell(i * 1000000), i);
        }
        due.is("38 full", x.tell(0), Due.FULL);
        due.is("38 60 wait", x.count(8), 60);
    }

    private static void tell(ShortCut x, int... all) {
        for (int v : all) {
            x.tell(v);
        }
    }

    private static void check() {
        ShortCut x = new ShortCut();
        x.bit(1, 0, 1, 20);
        x.walk(0, 1);
        tell(x, 1, 2, 3);
        due.is("39 no image", x.check(0, 1, 1), Due.NO);
        due.is("39 none wait", x.count(8), 0);
        tell(x, 1, 2, 3);
        due.is("39 BAD stands ahead of NO", x.check(0, 1, 0), Due.BAD);
        due.is("39 none wait", x.count(8), 0);
        x.keep();
        tell(x, 19, 2, 18, 3);
        due.is("39 right", x.check(0, 1, 2), 0);
        due.is("39 none wait", x.count(8), 0);
        due.is("39 all are missing", x.check(0, 1, 2), 1);
        tell(x, 19, 2, 18);
        due.is("39 the last is missing", x.check(0, 1, 2), 4);
        tell(x, 19, 2, 18, 3, 17);
        due.is("39 one too many", x.check(0, 1, 2), 5);
        tell(x, 20, 2, 18, 3);
        due.is("39 the first is not", x.check(0, 1, 2), 1);
        tell(x, 19, 3, 18, 3);
        due.is("39 the second is not", x.check(0, 1, 2), 2);
        tell(x, 19, 2, 17, 3);
        due.is("39 the third is not", x.check(0, 1, 2), 3);
        tell(x, 19, 2);
        due.is("39 the third is missing", x.check(0, 1, 2), 3);
        tell(x, 19, 2, 18, 4);
        due.is("39 the fourth is not", x.check(0, 1, 2), 4);
        tell(x, 0, 1);
        due.is("39 to itself", x.check(1, 1, 1), 0);
        int[][] bad = {{-1, 1, 1}, {8, 1, 1}, {0, -1, 1}, {0, 8, 1}, {0, 1, 0}, {0, 1, 31}};
        for (int[] b : bad) {
            x.tell(1);
            due.is("39 refused", x.check(b[0], b[1], b[2]), Due.BAD);
            due.is("39 none wait", x.count(8), 0);
        }
    }

    private static void checkGoesByTheImage() {
        ShortCut x = new ShortCut();
        x.bit(1, 0, 1, 20);
        x.keep();
        Due.putText(x, "take 500");
        x.walk(0, 1);
        x.bit(0, 0, 1, 3);
        x.rule(1, 1);
        tell(x, 20, 1);
        due.is("39 by the image", x.check(0, 1, 1), 0);
        tell(x, 20, 1);
        due.is("39 the image stays", x.check(0, 1, 1), 0);
        due.is("39 and all else", x.told(0, 4), 1);
        due.is("39 and all else", x.count(1), 1);
        due.is("39 and all else", x.latest(0), 500);
        x.keep();
        tell(x, 500, 2);
        due.is("39 by the new one", x.check(0, 1, 1), 0);
    }

    private static void checkOfThirty() {
        ShortCut x = new ShortCut();
        x.bit(1, 0, 1, 50);
        x.keep();
        for (int i = 0; i < 30; i++) {
            tell(x, 50 - i, i + 1);
        }
        due.is("39 of 30", x.check(0, 1, 30), 0);
        for (int i = 0; i < 30; i++) {
            tell(x, 50 - i, i + 1);
        }
        due.is("39 of 29", x.check(0, 1, 29), 59);
    }

    private static void keep() {
        ShortCut x = new ShortCut();
        due.is("40 no bits", x.keep(), 0);
        x.deal(14);
        due.is("40 14", x.keep(), 14);
        x.trim(0);
        due.is("40 the last one counts", x.back(), 14);
    }

    private static void back() {
        ShortCut x = new ShortCut();
        due.is("41 none", x.back(), Due.NO);
        x.bit(1, 0, 1, 40);
        x.walk(0, 1);
        x.rule(0, 1);
        x.rule(1, 9);
        x.seed(5);
        Due.putText(x, "fine m+1");
        x.keep();
        x.set(0, 3, 99);
        x.turns(0, 3);
        x.hush();
        x.bit(0, 1, 2, 5);
        x.walk(1, 2);
        x.walk(1, 0);
        x.rule(0, 0);
        x.rule(1, 8);
        x.deal(2);
        Due.putText(x, "fine 0");
        Due.putText(x, "take 1");
        Due.putText(x, "think 1");
        x.sheet(0, 0, 2);
        x.mark(0, 1, 6);
        x.lay(0, 3, 7);
        x.tell(1);
        x.feed(1, 2, 3);
        due.is("41 bits", x.back(), 1);
        isAsKept(x);
        due.is("41 sheets stay", x.wrong(0), 40 - 1 + 6);
        due.is("41 slots stay", x.rest(0, 4), 3);
        due.is("41 numbers that wait stay", x.count(8), 1);
        due.is("41 the tape stays", x.count(9), 12);
        x.deal(3);
        x.walk(1, 0);
        Due.putText(x, "think 5");
        due.is("41 again", x.back(), 1);
        isAsKept(x);
    }

    private static void backToTheFirst() {
        ShortCut x = new ShortCut();
        x.keep();
        x.bit(0, 0, 1, 20);
        x.walk(0, 1);
        for (int i = 0; i < 14; i++) {
            Due.putText(x, "fine 5");
        }
        due.is("41 no bits", x.back(), 0);
        due.is("41 no walk", x.latest(0), Due.NONE);
        due.is("41 no try", x.tried(0), Due.NONE);
        due.is("41 no text", x.why(2), Due.NONE);
        due.is("41 no text", x.textTold(0, 0), Due.BAD);
        due.is("41 from 0 on", x.bit(0, 0, 1, 30), 0);
        due.is("41 a new bit is not trodden", x.told(0, 4), 0);
        due.is("41 nothing was said of it", x.told(0, 5), Due.NONE);
        due.is("41 texts from 0 on", Due.putText(x, "think 5"), 0);
    }

    private static void backToFull() {
        ShortCut x = new ShortCut();
        x.deal(14);
        for (int i = 0; i < 14; i++) {
            Due.putText(x, "fine " + i);
        }
        due.is("40 full", x.keep(), 14);
        due.is("41 full", x.back(), 14);
        due.is("41 all texts", x.count(7), 14);
        due.is("41 the last one counts", x.fine(), 13);
    }

    private static void isAsKept(ShortCut x) {
        int[] told = {1, 0, 1, 40, 1, 40, 39, 0, 40, 44};
        for (int what = 0; what < told.length; what++) {
            due.is("41 told(0, " + what + ")", x.told(0, what), told[what]);
        }
        int[] counts = {1, 1, 40, 1, 9, 1, 1, 1};
        for (int what = 0; what < counts.length; what++) {
            due.is("41 count(" + what + ")", x.count(what), counts[what]);
        }
        due.is("41 z", x.count(10), 5);
        int[] latest = {40, 1, 1, 0};
        for (int what = 0; what < latest.length; what++) {
            due.is("41 latest(" + what + ")", x.latest(what), latest[what]);
        }
        due.is("41 tried", x.tried(0), 0);
        due.is("41 tried", x.tried(1), Due.NONE);
        due.is("41 why", x.why(0), Due.NONE);
        due.is("41 why", x.why(1), Due.NONE);
        due.is("41 why", x.why(2), 0);
        due.is("41 fine", x.fine(), 41);
    }

    private static void count() {
        ShortCut x = new ShortCut();
        x.bit(0, 0, 1, 20);
        x.bit(0, 0, 1, 20);
        x.bit(0, 1, 2, 20);
        x.set(1, 4, 30);
        x.walk(0, 2);
        x.rule(0, 1);
        x.rule(1, 77);
        Due.putText(x, "fine 1");
        x.tell(1);
        x.tell(1);
        x.feed(0, 0, 0);
        x.trim(7);
        x.seed(-9);
        int[] all = {3, 1, 40, 1, 77, 32, 2, 1, 2, 7, -9};
        for (int what = 0; what < all.length; what++) {
            due.is("42 count(" + what + ")", x.count(what), all[what]);
        }
        due.is("42 below", x.count(-1), Due.BAD);
        due.is("42 above", x.count(11), Due.BAD);
    }
}
