/** What all tests share: the due answers, the error codes as the document tells them, and texts. */
class Checks {
    static final int NO_SUCH_ELEMENT = -1;
    static final int BAD_VALUE = -2;
    static final int FULL = -3;
    static final int NONE = -4;
    static final int STATE = -5;

    static final int RED = 0;
    static final int GREEN = 1;
    static final int BLUE = 2;
    static final int SUN = 3;

    /** Numbers that are no coordinate, type, channel, chunk or direction. */
    static final int[] OUTSIDE = {-1, 12, 100, Integer.MIN_VALUE, Integer.MAX_VALUE};

    private static int wrong = 0;
    private static int asked = 0;

    static void due(String what, long got, long want) {
        asked++;
        if (got != want) {
            wrong++;
            System.out.println(what + " answered " + got + ", due is " + want);
        }
    }

    static void end() {
        System.out.println(asked + " answers, " + wrong + " of them not as due");
        if (wrong != 0) {
            System.exit(1);
        }
    }

    /** Appends a text, four characters a call, the last ones behind bytes that are 0. */
    static void write(LightPropagator p, String text) {
        for (int at = 0; at < text.length(); at += 4) {
            int packed = 0;
            for (int i = at; i < Math.min(at + 4, text.length()); i++) {
                packed = packed << 8 | text.charAt(i);
            }
            p.append(packed);
        }
    }

    static int read(LightPropagator p, String text) {
        write(p, text);
        return p.read();
    }

    /** A text that is refused or has a fault: the answer of read, and then the position. */
    static void dueFault(String text, int position) {
        LightPropagator p = new LightPropagator();
        long before = p.checksum();
        write(p, text);
        due("length of \"" + text + "\"", p.append(0), text.length());
        due("read of \"" + text + "\"", p.read(), BAD_VALUE);
        due("fault position of \"" + text + "\"", p.faultPosition(), position);
        due("checksum after \"" + text + "\"", p.checksum(), before);
        due("undo after \"" + text + "\"", p.undo(), NONE);
        due("read after \"" + text + "\"", p.read(), BAD_VALUE);
        due("fault position of the empty text", p.faultPosition(), 0);
    }

    static int number(int x, int y, int z) {
        return 100 * z + 12 * y + x;
    }

    /** A world without sunlight, so that effects tell of colors alone. */
    static LightPropagator night() {
        LightPropagator p = new LightPropagator();
        for (int type = 0; type < 8; type++) {
            p.setLoss(type, SUN, 15);
        }
        due("sunlight at night", p.chunkSum(4, SUN), 0);
        return p;
    }
}
