/** The boundary cases of promises 24 to 28, and of part 4 of the terms. */
public final class TextsEdgesTest {
    private static final int MIN = Integer.MIN_VALUE;
    private static final int MAX = Integer.MAX_VALUE;
    private static final String[] KEYS = {"take", "think", "fine"};
    private static final String[] NAMES = {"lwt", "sgk", "mw"};
    private static final Due due = new Due();
    private static final Edges edges = new Edges(due);

    public static void main(String[] args) {
        feedAtEverySize();
        feedIsFull();
        feedBringsAllBytes();
        trimAtEverySize();
        trimRefuses();
        trimThenFeed();
        tapeIsUsedUp();
        textIsFull();
        faultAheadOfFull();
        faultChangesNothing();
        keysAlone();
        namesOfTheirKeys();
        numbersOfFourDigits();
        wordsAsLongAsTheyGo();
        wordsNeedABlank();
        blanks();
        firstByteIsAny();
        pieceIsAny();
        behindAPieceIsAny();
        theEndTooSoon();
        oneTestOnly();
        openBrackets();
        openNots();
        openEachByItself();
        longestTexts();
        readsAnew();
        everyShortText();
        wraps();
        cuts();
        truth();
        countsThatWasToldLast();
        textToldAtTheEnds();
        textToldRefuses();
        whyAtTheEnds();
        whyRefuses();
        due.end("TextsEdgesTest");
    }

    private static int read(String bytes) {
        return Due.putText(new ShortCut(), bytes);
    }

    private static void reads(String bytes) {
        due.is("26 '" + bytes + "'", read(bytes), 0);
    }

    private static void fault(String bytes, int place) {
        due.is("26 '" + bytes + "'", read(bytes), -100 - place);
    }

    private static int value(String e) {
        ShortCut x = new ShortCut();
        due.is("26 fine " + e, Due.putText(x, "fine " + e), 0);
        return x.fine();
    }

    // ---- 24

    private static ShortCut withBytes(int n) {
        ShortCut x = new ShortCut();
        for (int i = 0; i < n; i += 12) {
            x.feed(0, 0, 0);
        }
        x.trim(n);
        return x;
    }

    private static void feedAtEverySize() {
        for (int n = 0; n <= 96; n++) {
            ShortCut x = withBytes(n);
            int then = n + 12 > 96 ? Due.FULL : n + 12;
            due.is("24 feed behind " + n, x.feed(MIN, -1, MAX), then);
            due.is("42 bytes behind " + n, x.count(9), then == Due.FULL ? n : then);
        }
    }

    private static void feedIsFull() {
        int[] all = {0, -1, MIN, MAX};
        for (int v : all) {
            edges.refused("24 FULL", Edges.FULL, Due.FULL, x -> x.feed(v, v, v));
        }
        Edges.Scene almost = () -> {
            ShortCut x = Edges.FULL.make();
            x.trim(85);
            return x;
        };
        edges.refused("24 one byte too many", almost, Due.FULL, x -> x.feed(0, 0, 0));
    }

    /** A text with each byte of the twelve at its place. */
    private static void feedBringsAllBytes() {
        ShortCut x = new ShortCut();
        x.feed('f' << 24 | 'i' << 16 | 'n' << 8 | 'e', ' ' << 24 | '9' << 16 | '8' << 8 | '7', '6' << 24 | '+' << 16 | '4' << 8 | '3');
        due.is("24 fine 9876+43", x.text(), 0);
        due.is("24 fine 9876+43", x.fine(), 9919);
        for (int at = 0; at < 12; at++) {
            int[] v = {0x20202020, 0x20202020, 0x20202020};
            v[at / 4] |= 0xff << 24 - at % 4 * 8;
            ShortCut y = new ShortCut();
            y.feed(v[0], v[1], v[2]);
            due.is("24 a byte of 255 at " + at, y.text(), -100 - at);
        }
    }

    // ---- 25

    private static void trimAtEverySize() {
        for (int n = 0; n <= 96; n++) {
            due.is("25 to " + n, withBytes(96).trim(n), n);
            due.is("25 all of " + n, withBytes(n).trim(n), n);
            due.is("25 nothing of " + n, withBytes(n).trim(0), 0);
            due.is("25 one more than " + n, withBytes(n).trim(n + 1), Due.BAD);
            ShortCut x = withBytes(96);
            x.trim(n);
            due.is("42 bytes", x.count(9), n);
        }
    }

    private static void trimRefuses() {
        for (int s = 0; s < 3; s++) {
            for (int v : Edges.outside(0, Edges.BYTES_OF[s])) {
                edges.refused("25 n " + v, Edges.ALL[s], Due.BAD, x -> x.trim(v));
            }
        }
        edges.refused("25 above 96", Edges.FULL, Due.BAD, x -> x.trim(97));
    }

    private static void trimThenFeed() {
        ShortCut x = new ShortCut();
        Due.putTape(x, "fine 1234567");
        x.trim(6);
        x.feed(Due.four("*2+3", 0), Due.four("    ", 0), Due.four("    ", 0));
        due.is("25 fine 1*2+3", x.text(), 0);
        due.is("25 fine 1*2+3", x.fine(), 5);
        Due.putTape(x, "fine 7 7");
        x.trim(6);
        due.is("25 what was cut off is no fault", x.text(), 1);
        due.is("25 what was cut off is no fault", x.fine(), 7);
        Due.putTape(x, "fine 1234");
        x.trim(8);
        x.text();
        due.is("25 within a word", x.fine(), 123);
    }

    // ---- 26: the tape, FULL, faults

    private static void tapeIsUsedUp() {
        ShortCut x = new ShortCut();
        String[] all = {"fine 1", "fine ?", "", "fine"};
        for (String bytes : all) {
            Due.putText(x, bytes);
            due.is("26 used up by '" + bytes + "'", x.count(9), 0);
            due.is("26 nothing is left of it", x.text(), -100);
        }
        for (int i = 1; i < 14; i++) {
            Due.putText(x, "fine 1");
        }
        due.is("26 full", Due.putText(x, "fine 1"), Due.FULL);
        due.is("26 used up", x.count(9), 0);
        due.is("26 nothing is left of it", x.text(), -100);
        due.is("24 room again", x.feed(0, 0, 0), 12);
    }

    private static void textIsFull() {
        for (int key = 0; key < 3; key++) {
            ShortCut x = new ShortCut();
            for (int i = 0; i < 14; i++) {
                due.is("26 text " + i, Due.putText(x, KEYS[key] + " " + i), i);
            }
            due.is("26 one more", Due.putText(x, KEYS[key] + " 99"), Due.FULL);
            due.is("26 one of another key", Due.putText(x, KEYS[(key + 1) % 3] + " 99"), Due.FULL);
            due.is("28 the last one that came", x.why(key), 13);
            due.is("28 none of another key", x.why((key + 1) % 3), Due.NONE);
        }
        edges.refusedLike("26 FULL", Edges.FULL, Edges.FULL_NO_TAPE, Due.FULL, ShortCut::text);
        ShortCut x = new ShortCut();
        for (int i = 0; i < 13; i++) {
            Due.putText(x, "fine 1");
        }
        x.keep();
        due.is("26 the last", Due.putText(x, "fine 1"), 13);
        due.is("26 full", Due.putText(x, "fine 1"), Due.FULL);
        x.back();
        due.is("26 room again", Due.putText(x, "fine 2"), 13);
        due.is("26 full again", Due.putText(x, "fine 1"), Due.FULL);
        due.is("23 the last", x.fine(), 2);
    }

    private static void faultAheadOfFull() {
        Edges.Call cut = x -> {
            x.trim(94);
            return x.text();
        };
        edges.refusedLike("26 a fault ahead of FULL", Edges.FULL, Edges.FULL_NO_TAPE, -194, cut);
        Edges.Call none = x -> {
            x.trim(0);
            return x.text();
        };
        edges.refusedLike("26 no bytes, ahead of FULL", Edges.FULL, Edges.FULL_NO_TAPE, -100, none);
    }

    private static void faultChangesNothing() {
        edges.refused("26 no bytes", Edges.BARE, -100, ShortCut::text);
        edges.refused("26 no bytes", Edges.PART_NO_TAPE, -100, ShortCut::text);
        Edges.Call cut = x -> {
            x.trim(13);
            return x.text();
        };
        edges.refusedLike("26 a fault", Edges.PART, Edges.PART_NO_TAPE, -113, cut);
    }

    // ---- 26: words, numbers, names

    private static void keysAlone() {
        String[] none = {
            "bake l", "tale l", "taka l", "shink s", "thins s", "wine m", "find m", "tak l", "takee l", "hink s", "thin s", "thinks s", "fin m", "fined m", "Fine m", "FINE m",
            "1 m", "m", "(fine m)", "!fine m", "t", "f"};
        for (String bytes : none) {
            fault(bytes, 0);
        }
        fault("ta ke l", 0);
        fault("take_l", 4);
        fault("fine fine m", 5);
        fault("think take l", 6);
        fault("fine m fine m", 7);
        for (int key = 0; key < 3; key++) {
            fault(KEYS[key], KEYS[key].length());
            reads(KEYS[key] + " " + NAMES[key].charAt(0));
        }
    }

    private static void namesOfTheirKeys() {
        for (int key = 0; key < 3; key++) {
            for (char c = 'a'; c <= 'z'; c++) {
                boolean is = NAMES[key].indexOf(c) >= 0;
                int place = KEYS[key].length() + 1;
                due.is("26 " + KEYS[key] + " " + c, read(KEYS[key] + " " + c), is ? 0 : -100 - place);
                due.is("26 " + KEYS[key] + " (7+" + c, read(KEYS[key] + " 7+" + c + " "), is ? 0 : -102 - place);
                fault(KEYS[key] + " " + c + c, place);
            }
        }
    }

    private static void numbersOfFourDigits() {
        int[] values = {0, 9, 10, 99, 100, 999, 1000, 9999};
        for (int v : values) {
            due.is("26 NUMBER " + v, value("" + v), v);
        }
        due.is("26 NUMBER 0000", value("0000"), 0);
        due.is("26 NUMBER 0009", value("0009"), 9);
        due.is("26 digits at their ends", value("0909"), 909);
        fault("fine 10000", 5);
        fault("fine 00000", 5);
        fault("fine 99999", 5);
        fault("fine 123456789", 5);
        fault("fine " + "1".repeat(91), 5);
        fault("fine m+12345+?", 7);
        fault("fine m 12345", 7);
        fault("fine 1234 5", 10);
        fault("fine 12345 ?", 5);
        fault("12345", 0);
    }

    private static void wordsAsLongAsTheyGo() {
        fault("fine mw", 5);
        fault("fine mmm", 5);
        fault("fine m+ww", 7);
        fault("finem", 0);
        fault("fine m`", 6);
        fault("fine m{", 6);
        fault("fine m@", 6);
        fault("fine m[", 6);
        fault("fine 1:", 6);
        due.is("26 / right behind a digit", value("8/2"), 4);
        fault("fine M", 5);
        fault("fine mM", 6);
        fault("fine 1<=2", 7);
        fault("fine 1=>2", 7);
        fault("fine 1&&2", 7);
        fault("fine 1||2", 7);
        fault("fine 1--2", 7);
        fault("fine 1**2", 7);
        fault("fine -1", 5);
        fault("fine +1", 5);
    }

    private static void wordsNeedABlank() {
        fault("fine1", 4);
        fault("fine12345", 4);
        fault("fine 1m", 6);
        fault("fine m1", 6);
        fault("fine 1234m", 9);
        fault("fine 12345m", 5);
        fault("fine mw1", 5);
        fault("fine m 1", 7);
        fault("fine 1 m", 7);
        fault("fine (1)m", 8);
        fault("fine m(1)", 6);
        due.is("26 signs need none", value("(1)+!(0)"), 2);
        ShortCut x = new ShortCut();
        due.is("26 ( right behind the key", Due.putText(x, "fine(7)"), 0);
        due.is("26 ! right behind the key", Due.putText(x, "fine!7"), 1);
    }

    private static void blanks() {
        reads("fine m ");
        reads(" fine m");
        reads("    fine    m    +    1    ");
        reads("fine ( m ) ");
        reads("fine ! ! m");
        due.is("26 blanks", value(" ( 1 + 2 ) * 3 "), 9);
        fault("fine m \t", 7);
        fault("fine\tm", 4);
        fault("fine\nm", 4);
        fault("fine m\n", 6);
        fault("fine m\u00a0", 6);
        reads(" ".repeat(90) + "fine m");
        reads("fine m" + " ".repeat(90));
        reads("fine" + " ".repeat(91) + "m");
        fault(" ".repeat(92) + "fine", 96);
        fault(" ".repeat(96), 96);
        fault(" ".repeat(95) + "?", 95);
    }

    private static boolean isLetter(int b) {
        return b >= 97 && b <= 122;
    }

    private static boolean isDigit(int b) {
        return b >= 48 && b <= 57;
    }

    private static void firstByteIsAny() {
        for (int b = 0; b < 256; b++) {
            int place = b == 32 ? 1 : 0;
            due.is("26 byte " + b + " alone", read("" + (char) b), -100 - place);
            due.is("26 byte " + b + " ahead", read((char) b + "fine m"), b == 32 ? 0 : -100);
        }
    }

    private static void pieceIsAny() {
        for (int b = 0; b < 256; b++) {
            int want = b == 'm' || b == 'w' || isDigit(b) ? 0 : b == 32 || b == '(' || b == '!' ? -106 : -105;
            due.is("26 byte " + b + " as a PIECE", read("fine " + (char) b), want);
            int inside = b == 'm' || b == 'w' || isDigit(b) ? 0 : b == 32 || b == '(' || b == '!' ? -107 : -106;
            due.is("26 byte " + b + " as a PIECE in brackets", read("fine (" + (char) b + ")"), inside);
        }
    }

    private static void behindAPieceIsAny() {
        for (int b = 0; b < 256; b++) {
            int want;
            if (isLetter(b)) {
                want = -105;
            } else if (b == 32) {
                want = 0;
            } else {
                want = "|&<=>+-*/".indexOf((char) b) >= 0 ? -107 : -106;
            }
            due.is("26 byte " + b + " behind a PIECE", read("fine m" + (char) b), want);
            int then = isLetter(b) ? -105 : b == 32 ? -107 : "|&<=>+-*/".indexOf((char) b) >= 0 ? 0 : -106;
            due.is("26 byte " + b + " between PIECES", read("fine m" + (char) b + "w"), then);
            int closed = isLetter(b) || isDigit(b) ? -108 : b == 32 ? 0 : want == -107 ? -109 : -108;
            due.is("26 byte " + b + " behind brackets", read("fine (m)" + (char) b), closed);
        }
    }

    private static void theEndTooSoon() {
        fault("", 0);
        fault(" ", 1);
        fault("fine", 4);
        fault("fine  ", 6);
        fault("fine (", 6);
        fault("fine (m", 7);
        fault("fine (m ", 8);
        fault("fine ((m)", 9);
        fault("fine !", 6);
        fault("fine ! ", 7);
        for (char sign : "|&<=>+-*/".toCharArray()) {
            fault("fine m" + sign, 7);
            fault("fine m" + sign + "   ", 10);
            fault("fine (m" + sign + ")", 8);
            fault("fine (m)" + sign + sign, 9);
        }
        fault("fine m)", 6);
        fault("fine (m))", 8);
        fault("fine )", 5);
        fault("fine ()", 6);
        fault("fine !)", 6);
    }

    private static void oneTestOnly() {
        for (char one : "<=>".toCharArray()) {
            for (char two : "<=>".toCharArray()) {
                fault("fine 1" + one + "2" + two + "3", 8);
                fault("fine (1" + one + "2" + two + "3)", 9);
                reads("fine (1" + one + "2)" + two + "3");
                reads("fine 1" + one + "(2" + two + "3)");
                reads("fine 1" + one + "2&3" + two + "4");
                reads("fine 1" + one + "2|3" + two + "4");
                reads("fine 1+" + "1" + one + "2*2");
            }
        }
    }

    // ---- 26: what is open

    private static void openBrackets() {
        for (int n = 1; n <= 12; n++) {
            String bytes = "fine " + "(".repeat(n) + "7" + ")".repeat(n);
            due.is("26 " + n + " (", read(bytes), n <= 8 ? 0 : -113);
            fault("fine " + "(".repeat(n), n <= 8 ? 5 + n : 13);
            fault("fine " + "(".repeat(n) + "7", n <= 8 ? 6 + n : 13);
        }
        due.is("26 eight, then eight", value("((((((((7))))))))+((((((((8))))))))"), 15);
        due.is("26 a closed one is not open", value("(1+(((((((2)))))))+(((((((3))))))))"), 6);
        fault("fine (1+(((((((2)))))))+((((((((3)))))))))", 31);
        fault("fine " + "( ".repeat(9) + "7", 21);
    }

    private static void openNots() {
        for (int n = 1; n <= 12; n++) {
            due.is("26 " + n + " !", read("fine " + "!".repeat(n) + "7"), n <= 8 ? 0 : -113);
            fault("fine " + "!".repeat(n), n <= 8 ? 5 + n : 13);
        }
        due.is("26 eight, then eight", value("!!!!!!!!7+!!!!!!!!8"), 2);
        due.is("26 open till its PIECE ends, a NUMBER", value("!7+!7+!7+!7+!7+!7+!7+!7+!7+!0"), 1);
        due.is("26 open till its PIECE ends, brackets", value("!(!(!0))+!!!!!!!!7"), 2);
        fault("fine !(1+!!!!!!!!7)", 16);
        reads("fine !(1+!!!!!!!7)");
        reads("fine !(1+!!!!!!!7)*!!!!!!!!7");
        fault("fine !!!!(1+!!!!(2+!3))", 19);
        reads("fine !!!!(1+!!!(2+!3))");
        reads("fine !!!!(!!!!(2)+!!!!3)");
    }

    private static void openEachByItself() {
        reads("fine " + "!(".repeat(8) + "7" + ")".repeat(8));
        reads("fine " + "(!".repeat(8) + "7" + ")".repeat(8));
        reads("fine !!!!!!!!((((((((7))))))))");
        reads("fine ((((((((!!!!!!!!7))))))))");
        fault("fine !!!!!!!!(((((((((7)))))))))", 21);
        fault("fine ((((((((!!!!!!!!!7))))))))", 21);
        fault("fine " + "!(".repeat(9) + "7" + ")".repeat(9), 21);
        fault("fine " + "(!".repeat(9) + "7" + ")".repeat(9), 21);
    }

    private static void longestTexts() {
        ShortCut x = new ShortCut();
        due.is("26 96 bytes, 46 NUMBERS", Due.putText(x, "fine " + "9+".repeat(45) + "9"), 0);
        due.is("27 46 NUMBERS", x.textTold(0, 1), 46);
        due.is("23 46 NUMBERS", x.fine(), 414);
        due.is("26 8 within one another", Due.putText(x, "fine " + "1+(".repeat(8) + "1" + ")".repeat(8)), 1);
        due.is("23 8 within one another", x.fine(), 9);
        fault("fine " + "9+".repeat(45) + "?", 95);
        fault("fine " + "9+".repeat(45) + " ", 96);
        reads("fine 9" + "+9".repeat(45));
    }

    /** What a faulty text left behind is nothing to the next one. */
    private static void readsAnew() {
        String[] faulty = {
            "fine ((((((((m", "fine !!!!!!!!", "fine m m", "fine 1 2", "fine 12345", "fine", "take?", "fine 1+(2*3", "m", "1"};
        for (String bytes : faulty) {
            ShortCut x = new ShortCut();
            due.is("26 faulty: '" + bytes + "'", Due.putText(x, bytes) <= -100 ? 1 : 0, 1);
            due.is("26 behind '" + bytes + "'", Due.putText(x, "fine ((((((((!!!!!!!!7))))))))"), 0);
            due.is("23 behind '" + bytes + "'", x.fine(), 1);
            due.is("27 behind '" + bytes + "'", x.textTold(0, 1), 1);
            Due.putText(x, bytes);
            due.is("26 faulty, then empty", x.text(), -100);
        }
    }

    /** All texts of up to four of these bytes behind the key, by the twin. */
    private static void everyShortText() {
        String bytes = "m1!()<+&*0 ";
        int n = bytes.length();
        for (int length = 0; length <= 4; length++) {
            int all = (int) Math.pow(n, length);
            for (int i = 0; i < all; i++) {
                StringBuilder e = new StringBuilder("fine ");
                for (int k = 0, rest = i; k < length; k++, rest /= n) {
                    e.append(bytes.charAt(rest % n));
                }
                ShortCut x = new ShortCut();
                Twin twin = new Twin();
                int want = putTwinText(twin, e.toString());
                due.is("26 '" + e + "'", Due.putText(x, e.toString()), want);
                due.is("23 '" + e + "'", x.fine(), twin.fine());
            }
        }
    }

    private static int putTwinText(Twin twin, String bytes) {
        for (int i = 0; i < bytes.length(); i += 12) {
            twin.feed(Due.four(bytes, i), Due.four(bytes, i + 4), Due.four(bytes, i + 8));
        }
        twin.trim(bytes.length());
        return twin.text();
    }

    // ---- 26: what it gives

    private static final String LEAST = "(4096*4096*128)";
    private static final String MOST = "(4096*4096*128-1)";

    private static void wraps() {
        due.is("26 the least", value(LEAST), MIN);
        due.is("26 the greatest", value(MOST), MAX);
        due.is("26 one less than the least", value(LEAST + "-1"), MAX);
        due.is("26 one more than the greatest", value(MOST + "+1"), MIN);
        due.is("26 twice the least", value(LEAST + "*2"), 0);
        due.is("26 twice the greatest", value(MOST + "*2"), -2);
        due.is("26 0 less the least", value("0-" + LEAST), MIN);
        due.is("26 the least by -1", value(LEAST + "/(0-1)"), MIN);
        due.is("26 the least times -1", value(LEAST + "*(0-1)"), MIN);
        due.is("26 the greatest by -1", value(MOST + "/(0-1)"), -MAX);
        due.is("26 the least is less", value(LEAST + "<" + MOST), 1);
        due.is("26 the greatest is not less", value(MOST + "<" + LEAST), 0);
        due.is("26 the greatest is greater", value(MOST + ">" + LEAST), 1);
        due.is("26 alike", value(LEAST + "=" + MOST + "+1"), 1);
        due.is("26 the least is true", value("!" + LEAST), 0);
        due.is("26 9999 times itself, four times", value("9999*9999*9999*9999"),
            java.math.BigInteger.valueOf(9999).pow(4).intValue());
    }

    private static void cuts() {
        due.is("26 7/2", value("7/2"), 3);
        due.is("26 -7/2", value("(0-7)/2"), -3);
        due.is("26 7/-2", value("7/(0-2)"), -3);
        due.is("26 -7/-2", value("(0-7)/(0-2)"), 3);
        due.is("26 1/2", value("1/2"), 0);
        due.is("26 -1/2", value("(0-1)/2"), 0);
        due.is("26 7/0", value("7/0"), 0);
        due.is("26 0/0", value("0/0"), 0);
        due.is("26 the least by 0", value(LEAST + "/0"), 0);
        due.is("26 by what is 0", value("5/(3-3)+2"), 2);
        due.is("26 by 0, then on", value("5/0/0*3+1"), 1);
    }

    private static void truth() {
        int[] all = {0, 1, 2, -1};
        String[] told = {"0", "1", "2", "(0-1)"};
        for (int i = 0; i < all.length; i++) {
            due.is("26 !" + told[i], value("!" + told[i]), all[i] == 0 ? 1 : 0);
            for (int k = 0; k < all.length; k++) {
                boolean a = all[i] != 0;
                boolean b = all[k] != 0;
                due.is("26 " + told[i] + "&" + told[k], value(told[i] + "&" + told[k]), a && b ? 1 : 0);
                due.is("26 " + told[i] + "|" + told[k], value(told[i] + "|" + told[k]), a || b ? 1 : 0);
                due.is("26 " + told[i] + "<" + told[k], value(told[i] + "<" + told[k]), all[i] < all[k] ? 1 : 0);
                due.is("26 " + told[i] + "=" + told[k], value(told[i] + "=" + told[k]), all[i] == all[k] ? 1 : 0);
                due.is("26 " + told[i] + ">" + told[k], value(told[i] + ">" + told[k]), all[i] > all[k] ? 1 : 0);
            }
        }
    }

    private static void countsThatWasToldLast() {
        ShortCut x = new ShortCut();
        x.bit(0, 0, 1, 50);
        Due.putText(x, "take 5");
        Due.putText(x, "take 6");
        due.is("26 the last", x.told(0, 6), 6);
        Due.putText(x, "fine 7");
        Due.putText(x, "think 8");
        due.is("26 others are nothing to it", x.told(0, 6), 6);
        due.is("26 others are nothing to it", x.told(0, 8), 8);
        due.is("26 others are nothing to it", x.fine(), 7);
        Due.putText(x, "take 9 9");
        due.is("26 a faulty one is none", x.told(0, 6), 6);
        due.is("28 the last", x.why(0), 1);
    }

    // ---- 27, 28

    private static void textToldAtTheEnds() {
        ShortCut x = new ShortCut();
        for (int i = 0; i < 14; i++) {
            int key = i % 3;
            Due.putText(x, KEYS[key] + " 1" + ("+" + NAMES[key].charAt(1)).repeat(i));
        }
        for (int i = 0; i < 14; i++) {
            due.is("27 KEY of " + i, x.textTold(i, 0), i % 3);
            due.is("27 how many of " + i, x.textTold(i, 1), i + 1);
        }
        due.is("27 brackets and signs are none", Due.putText(new ShortCut(), "fine !(1)"), 0);
        ShortCut y = new ShortCut();
        Due.putText(y, "fine !(!(1234))");
        due.is("27 brackets and signs are none", y.textTold(0, 1), 1);
    }

    private static void textToldRefuses() {
        for (int s = 0; s < 3; s++) {
            for (int v : Edges.outside(0, Edges.TEXTS_OF[s] - 1)) {
                edges.refused("27 text " + v, Edges.ALL[s], Due.BAD, x -> x.textTold(v, 0));
                edges.refused("27 text " + v, Edges.ALL[s], Due.BAD, x -> x.textTold(v, 1));
            }
        }
        edges.badOutside("27 what", 0, 1, v -> x -> x.textTold(0, v));
    }

    private static void whyAtTheEnds() {
        for (int key = 0; key < 3; key++) {
            int k = key;
            edges.refused("28 none", Edges.BARE, Due.NONE, x -> x.why(k));
            for (int other = 0; other < 3; other++) {
                ShortCut x = new ShortCut();
                Due.putText(x, KEYS[key] + " 1");
                due.is("28 of one text", x.why(other), other == key ? 0 : Due.NONE);
            }
            ShortCut x = new ShortCut();
            for (int i = 0; i < 14; i++) {
                Due.putText(x, KEYS[key] + " 1");
                due.is("28 the last", x.why(key), i);
            }
        }
    }

    private static void whyRefuses() {
        edges.badOutside("28 key", 0, 2, v -> x -> x.why(v));
    }
}
