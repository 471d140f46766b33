/** Promises 24 to 28. */
public final class TextsTest {
    private static final Due due = new Due();

    public static void main(String[] args) {
        feed();
        trim();
        text();
        names();
        values();
        faults();
        open();
        anew();
        full();
        textTold();
        why();
        due.end("TextsTest");
    }

    private static void feed() {
        ShortCut x = new ShortCut();
        for (int i = 1; i <= 8; i++) {
            due.is("24 feed", x.feed(0, -1, i), 12 * i);
        }
        due.is("24 full", x.feed(0, 0, 0), Due.FULL);
        due.is("24 as many as it had", x.count(9), 96);
        x.trim(85);
        due.is("24 11 are too few", x.feed(0, 0, 0), Due.FULL);
        x.trim(84);
        due.is("24 12 are enough", x.feed(0, 0, 0), 96);
        ShortCut y = new ShortCut();
        y.feed(0x66696e65, 0x20313233, 0x342b6d20);
        due.is("24 the highest byte first", y.text(), 0);
        due.is("24 fine 1234+m", y.fine(), 1234);
    }

    private static void trim() {
        ShortCut x = new ShortCut();
        due.is("25 nothing", x.trim(0), 0);
        due.is("25 above", x.trim(1), Due.BAD);
        x.feed(0x66696e65, 0x20313233, 0x342b6d20);
        due.is("25 below", x.trim(-1), Due.BAD);
        due.is("25 above", x.trim(13), Due.BAD);
        due.is("25 all", x.trim(12), 12);
        due.is("25 some", x.trim(7), 7);
        due.is("25 not again", x.trim(8), Due.BAD);
        due.is("25 the first ones", x.text(), 0);
        due.is("25 fine 12", x.fine(), 12);
    }

    private static void text() {
        ShortCut x = new ShortCut();
        due.is("26 first", Due.putText(x, "take l"), 0);
        due.is("26 the tape is used up", x.count(9), 0);
        due.is("26 nothing is no text", x.text(), -100);
        due.is("26 second", Due.putText(x, "  think   s + g  "), 1);
        due.is("26 a fault", Due.putText(x, "fine )"), -105);
        due.is("26 the tape is used up", x.count(9), 0);
        due.is("26 no text", x.count(7), 2);
        due.is("26 signs need no blanks", Due.putText(x, "fine(m+w)*2"), 2);
        due.is("26 how many", x.count(7), 3);
    }

    private static void names() {
        ShortCut x = new ShortCut();
        x.bit(4, 0, 1, 30);
        x.set(0, 4, 7);
        x.rule(1, 33);
        Due.putText(x, "take l*10+t");
        due.is("26 l t", x.told(0, 6), 307);
        x.rule(0, 1);
        Due.putText(x, "take w*100+5");
        due.is("26 w, and twice", x.told(0, 6), 210);
        Due.putText(x, "think k*100+g");
        due.is("26 k g", x.told(0, 8), 433);
        Due.putText(x, "think s+17");
        due.is("26 s is 0", x.told(0, 8), 17);
        x.set(0, 5, 21);
        due.is("26 s", x.told(0, 8), 38);
        Due.putText(x, "think 0-s");
        due.is("26 1 at least", x.told(0, 8), 1);
        Due.putText(x, "think s*s*s");
        due.is("26 999 at most", x.told(0, 8), 999);
        x.walk(0, 0);
        x.walk(0, 0);
        Due.putText(x, "fine w*1000+m");
        due.is("26 w m", x.fine(), 2000);
    }

    private static void gives(String e, int want) {
        ShortCut x = new ShortCut();
        x.bit(5, 0, 1, 7);
        x.walk(0, 1);
        x.walk(0, 1);
        x.walk(0, 1);
        due.is("26 text of " + e, Due.putText(x, "fine " + e), 0);
        due.is("23 " + e + " of m 21, w 3", x.fine(), want);
    }

    private static void values() {
        gives("m", 21);
        gives("w", 3);
        gives("0", 0);
        gives("9999", 9999);
        gives("0007", 7);
        gives("m-w-1", 17);
        gives("m-(w-1)", 19);
        gives("1+2*3", 7);
        gives("(1+2)*3", 9);
        gives("m/w/2", 3);
        gives("m*w/2", 31);
        gives("m/2*w", 30);
        gives("(0-7)/2", -3);
        gives("7/0", 0);
        gives("0/0", 0);
        gives("1<2", 1);
        gives("2<2", 0);
        gives("2=2", 1);
        gives("3=2", 0);
        gives("3>2", 1);
        gives("2>2", 0);
        gives("1+1=2", 1);
        gives("(1<2)=1", 1);
        gives("1&1", 1);
        gives("2&4", 1);
        gives("0&4", 0);
        gives("2&0", 0);
        gives("0&0", 0);
        gives("0|0", 0);
        gives("0|5", 1);
        gives("5|0", 1);
        gives("1|0&0", 1);
        gives("(1|0)&0", 0);
        gives("1<2|3", 1);
        gives("0&1|1", 1);
        gives("!0", 1);
        gives("!5", 0);
        gives("!!5", 1);
        gives("!m*2", 0);
        gives("!0*2", 2);
        gives("!(m=21)", 0);
        gives("!0+!0+!0", 3);
        gives("5", 5);
        gives("(((5)))", 5);
        gives("9999*9999*9999*9999", (int) (9999L * 9999 % (1L << 32) * 9999 % (1L << 32) * 9999));
        gives("2*(1<2)+3", 5);
    }

    private static void fault(String bytes, int place) {
        due.is("26 fault of '" + bytes + "'", Due.putText(new ShortCut(), bytes), -100 - place);
    }

    private static void faults() {
        fault("", 0);
        fault("   ", 3);
        fault("take", 4);
        fault("take ", 5);
        fault("takes l", 0);
        fault("Take l", 0);
        fault("  tak l", 2);
        fault("bake l", 0);
        fault("taka l", 0);
        fault("shink s", 0);
        fault("wine m", 0);
        fault("take la", 5);
        fault("take lz", 5);
        fault("take az", 5);
        fault("12", 0);
        fault("take1", 4);
        fault("take12345", 4);
        fault("take 12345", 5);
        fault("take 00001", 5);
        fault("take 1+12345", 7);
        fault("take 1l", 6);
        fault("take l1", 6);
        fault("take l l", 7);
        fault("take l+", 7);
        fault("take l+ ", 8);
        fault("take ll", 5);
        fault("take s", 5);
        fault("take m", 5);
        fault("take g", 5);
        fault("think l", 6);
        fault("think w", 6);
        fault("think t", 6);
        fault("fine l", 5);
        fault("fine s", 5);
        fault("fine k", 5);
        fault("take +l", 5);
        fault("take l++l", 7);
        fault("take l<t<w", 8);
        fault("fine 1<2=1&1", 8);
        fault("fine 1>2<", 8);
        fault("take l<t&w>l=t", 12);
        due.is("26 a test of a test", Due.putText(new ShortCut(), "take (l<t)<w"), 0);
        fault("take (l<t<w)", 9);
        fault("take (l", 7);
        fault("take (l  ", 9);
        fault("take l)", 6);
        fault("take ()", 6);
        fault("take (l))", 8);
        fault("take l!", 6);
        fault("take !", 6);
        fault("take !+l", 6);
        fault("take l(", 6);
        fault("take take", 5);
        fault("take l\u0000", 6);
        fault("take\tl", 4);
        fault("take l\u00e9", 6);
        fault("take l{", 6);
        fault("take `", 5);
        fault("take l:", 6);
        fault("take L", 5);
        fault("\u00ffake l", 0);
        fault("fine t", 5);
        fault("fine w w", 7);
    }

    private static void open() {
        due.is("26 eight (", Due.putText(new ShortCut(), "take " + "(".repeat(8) + "l" + ")".repeat(8)), 0);
        fault("take " + "(".repeat(9) + "l" + ")".repeat(9), 13);
        due.is("26 eight !", Due.putText(new ShortCut(), "take " + "!".repeat(8) + "l"), 0);
        fault("take " + "!".repeat(9) + "l", 13);
        due.is("26 each by itself", Due.putText(new ShortCut(), "take " + "!(".repeat(8) + "l" + ")".repeat(8)), 0);
        fault("take " + "!(".repeat(8) + "!l" + ")".repeat(8), 21);
        fault("take " + "!(".repeat(8) + "(l)" + ")".repeat(8), 21);
        due.is("26 closed ones count no more",
            Due.putText(new ShortCut(), "take " + "(l)+".repeat(9) + "l"), 0);
        due.is("26 closed ones count no more",
            Due.putText(new ShortCut(), "take " + "!l+".repeat(9) + "l"), 0);
        due.is("26 closed by their brackets",
            Due.putText(new ShortCut(), "take " + "!(!l)+".repeat(9) + "!".repeat(8) + "l"), 0);
        fault("take (" + "(l)+".repeat(3) + "(".repeat(8) + "l", 25);
        ShortCut x = new ShortCut();
        due.is("26 96 bytes", Due.putText(x, "fine 10" + "+1".repeat(44) + " "), 0);
        due.is("26 its value", x.fine(), 54);
        due.is("27 its numbers", x.textTold(0, 1), 45);
        fault("fine 10" + "+1".repeat(44) + "+", 96);
    }

    /** What a faulty text left open is no burden to the next one. */
    private static void anew() {
        ShortCut x = new ShortCut();
        Due.putText(x, "take ((((((((l");
        due.is("26 ( anew", Due.putText(x, "take " + "(".repeat(8) + "l" + ")".repeat(8)), 0);
        Due.putText(x, "take !!!!!!!!");
        due.is("26 ! anew", Due.putText(x, "take " + "!".repeat(8) + "l"), 1);
        Due.putText(x, "take 1+2+3+ll");
        due.is("26 words anew", Due.putText(x, "take l"), 2);
        due.is("27 numbers anew", x.textTold(2, 1), 1);
        Due.putText(x, "take 1 2");
        due.is("26 words anew", Due.putText(x, "take 7"), 3);
        x.bit(0, 0, 1, 30);
        due.is("26 its value", x.told(0, 6), 7);
    }

    private static void full() {
        ShortCut x = new ShortCut();
        for (int i = 0; i < 14; i++) {
            due.is("26 text", Due.putText(x, "fine " + i), i);
        }
        due.is("26 full", Due.putText(x, "fine 99"), Due.FULL);
        due.is("26 the tape is used up", x.count(9), 0);
        due.is("26 a fault stands ahead of FULL", Due.putText(x, "fine ?"), -105);
        due.is("26 14", x.count(7), 14);
        due.is("26 the last of them counts", x.fine(), 13);
    }

    private static void textTold() {
        ShortCut x = new ShortCut();
        due.is("27 none", x.textTold(0, 0), Due.BAD);
        Due.putText(x, "think 12*s+(g|3)&!k");
        Due.putText(x, "fine 1");
        Due.putText(x, "take l");
        due.is("27 KEY", x.textTold(0, 0), 1);
        due.is("27 NUMBERS and NAMES", x.textTold(0, 1), 5);
        due.is("27 KEY", x.textTold(1, 0), 2);
        due.is("27 NUMBERS and NAMES", x.textTold(1, 1), 1);
        due.is("27 KEY", x.textTold(2, 0), 0);
        due.is("27 what below", x.textTold(0, -1), Due.BAD);
        due.is("27 what above", x.textTold(0, 2), Due.BAD);
        due.is("27 text below", x.textTold(-1, 0), Due.BAD);
        due.is("27 text above", x.textTold(3, 0), Due.BAD);
    }

    private static void why() {
        ShortCut x = new ShortCut();
        for (int key = 0; key < 3; key++) {
            due.is("28 none", x.why(key), Due.NONE);
        }
        Due.putText(x, "think 1");
        Due.putText(x, "take 1");
        Due.putText(x, "think 2");
        due.is("28 take", x.why(0), 1);
        due.is("28 think: the last", x.why(1), 2);
        due.is("28 fine", x.why(2), Due.NONE);
        due.is("28 below", x.why(-1), Due.BAD);
        due.is("28 above", x.why(3), Due.BAD);
        Due.putText(x, "think 3 3");
        due.is("28 a faulty one does not count", x.why(1), 2);
    }
}
