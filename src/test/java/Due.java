/** Counts answers that are not the ones due; every test of the project tells through it. */
final class Due {
    static final int BAD = -1000000001;
    static final int NO = -1000000002;
    static final int FULL = -1000000003;
    static final int NONE = -1000000005;
    static final int NOTHING = -1000000011;
    static final int KIND = -1000000012;
    static final int INDEX = -1000000013;
    static final int SIZE = -1000000014;

    private int asked = 0;
    private int wrong = 0;

    void is(String call, long got, long want) {
        asked++;
        if (got != want) {
            wrong++;
            if (wrong <= 40) {
                System.out.println(call + " answered " + got + ", due is " + want);
            }
        }
    }

    void end(String test) {
        System.out.println(test + ": " + asked + " answers, " + wrong + " not as due");
        if (wrong != 0) {
            System.exit(1);
        }
    }

    /** Puts a tape together that is the bytes of a text, each character one byte. */
    static void putTape(ShortCut x, String bytes) {
        x.trim(0);
        for (int i = 0; i < bytes.length(); i += 12) {
            x.feed(four(bytes, i), four(bytes, i + 4), four(bytes, i + 8));
        }
        x.trim(bytes.length());
    }

    static int putText(ShortCut x, String bytes) {
        putTape(x, bytes);
        return x.text();
    }

    static int four(String bytes, int at) {
        int v = 0;
        for (int i = at; i < at + 4; i++) {
            v = v << 8 | (i < bytes.length() ? bytes.charAt(i) & 255 : 32);
        }
        return v;
    }
}
