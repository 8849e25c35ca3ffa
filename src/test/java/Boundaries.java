/** What the tests of boundaries share: ranges, cells, and twins that tell what a call leaves unchanged. */
class Boundaries extends Checks {
    static final int LEAST = Integer.MIN_VALUE;
    static final int GREATEST = Integer.MAX_VALUE;

    interface Call {
        long on(LightPropagator p);
    }

    interface NumberCall {
        long on(LightPropagator p, int number);
    }

    interface CellCall {
        long on(LightPropagator p, int x, int y, int z);
    }

    interface Setup {
        void on(LightPropagator p);
    }

    /** All eight corners of the world. */
    static final int[][] CORNERS = {{0, 0, 0}, {11, 0, 0}, {0, 7, 0}, {11, 7, 0}, {0, 0, 11}, {11, 0, 11}, {0, 7, 11},
        {11, 7, 11}};

    /**
     * No cells: just outside, far outside, outside in one coordinate while a careless sum of them would be inside, and
     * two whose products with 12 and 96 wrap around to small numbers.
     */
    static final int[][] NO_CELLS = {{-1, 0, 0}, {12, 0, 0}, {0, -1, 0}, {0, 8, 0}, {0, 0, -1}, {0, 0, 12},
        {LEAST, 0, 0}, {GREATEST, 0, 0}, {0, LEAST, 0}, {0, GREATEST, 0}, {0, 0, LEAST}, {0, 0, GREATEST},
        {12, 7, 11}, {11, 8, 11}, {11, 7, 12}, {-1, 3, 5}, {12, 3, 5}, {5, -1, 5}, {5, 8, 5}, {5, 3, -1}, {5, 3, 12},
        {0, 357913942, 0}, {0, 0, 44739243}, {LEAST, LEAST, LEAST}, {GREATEST, GREATEST, GREATEST}};

    /** The range is taken; the numbers just outside of it, and the least and the greatest int, get the code. */
    static void dueRange(String what, int least, int greatest, int code, NumberCall call) {
        for (int number : new int[] {least, greatest}) {
            due(what + " takes " + number, call.on(new LightPropagator(), number) == code ? 1 : 0, 0);
        }
        for (int number : new int[] {least - 1, greatest + 1, LEAST, GREATEST}) {
            due(what + " does not take " + number, call.on(new LightPropagator(), number), code);
        }
    }

    /** All corners up to a height are taken, and no cell outside the world. */
    static void dueCells(String what, int highest, CellCall call) {
        for (int[] c : CORNERS) {
            int y = Math.min(c[1], highest);
            due(what + " takes " + c[0] + " " + y + " " + c[2],
                    call.on(new LightPropagator(), c[0], y, c[2]) == NO_SUCH_ELEMENT ? 1 : 0, 0);
        }
        for (int[] c : NO_CELLS) {
            due(what + " does not take " + c[0] + " " + c[1] + " " + c[2],
                    call.on(new LightPropagator(), c[0], c[1], c[2]), NO_SUCH_ELEMENT);
        }
    }

    static void dueText(String what, String got, String want) {
        int same = 0;
        while (same < got.length() && same < want.length() && got.charAt(same) == want.charAt(same)) {
            same++;
        }
        boolean equal = got.equals(want);
        due(what + (equal ? "" : ": ..." + got.substring(Math.max(0, same - 40), got.length())
                + " instead of ..." + want.substring(Math.max(0, same - 40), want.length())), equal ? 1 : 0, 1);
    }

    /** The call answers the code, and afterwards the object cannot be told from its twin without the call. */
    static void dueRefused(String what, Setup setup, int code, Call call) {
        LightPropagator asked = new LightPropagator();
        setup.on(asked);
        due(what, call.on(asked), code);
        dueLike(what, asked, setup);
    }

    /** The object cannot be told from a twin that had the setup alone. */
    static void dueLike(String what, LightPropagator asked, Setup setup) {
        LightPropagator twin = new LightPropagator();
        setup.on(twin);
        dueText(what + " leaves everything unchanged", told(asked), told(twin));
    }

    /** All that an object tells, also by what it can still do; fewer than 400 calls. */
    static String told(LightPropagator p) {
        StringBuilder told = new StringBuilder();
        look(p, told.append("now"));
        look(p, told.append(" closeBatch ").append(p.closeBatch()));
        look(p, told.append(" read ").append(p.read()));
        int left = p.undo();
        while (left >= 0) {
            told.append(" undo ").append(left).append(" checksum ").append(p.checksum());
            left = p.undo();
        }
        look(p, told.append(" restore ").append(p.restore()));
        return told.toString();
    }

    private static void look(LightPropagator p, StringBuilder told) {
        told.append(": checksum ").append(p.checksum()).append(" losses");
        for (int type = 0; type < 8; type++) {
            for (int channel = 0; channel < 4; channel++) {
                told.append(' ').append(p.loss(type, channel));
            }
        }
        told.append(" emissions");
        for (int type = 0; type < 8; type++) {
            for (int channel = 0; channel < 3; channel++) {
                told.append(' ').append(p.emission(type, channel));
            }
        }
        int size = p.effect(-1);
        told.append(" effect ").append(size).append(':');
        for (int index = 0; index < Math.min(size, 20); index++) {
            told.append(' ').append(p.effect(index));
        }
        told.append(" chunks ").append(p.effectChunks()).append(" batch ").append(p.batchSize())
                .append(" fault ").append(p.faultPosition()).append(" text ").append(p.append(0));
    }

    /** A copy, four changes, a fault at 4, an effect of 8 cells, and a text that waits. */
    static void eventful(LightPropagator p) {
        p.setEmission(2, RED, 3);
        p.set(4, 4, 4, 2);
        p.save();
        read(p, "s0,0=");
        p.setLoss(3, BLUE, 5);
        p.set(0, 7, 0, 1);
        write(p, "s1,1,1=2");
    }

    static void eventfulAndOpen(LightPropagator p) {
        eventful(p);
        p.openBatch();
        p.set(9, 1, 9, 2);
        p.set(9, 7, 9, 1);
    }

    static void eventfulAndFullBatch(LightPropagator p) {
        eventful(p);
        p.openBatch();
        collectForty(p);
    }

    /** Edits of the cells with y 0 and z 0 to 3, but the last 8 of them. */
    static void collectForty(LightPropagator p) {
        for (int edit = 0; edit < 40; edit++) {
            due("2: edit " + edit, p.set(edit % 12, 0, edit / 12, 1), edit + 1);
        }
    }

    /** Six changes, which are all that can be undone, and the first of seven, which cannot. */
    static void sevenChanges(LightPropagator p) {
        p.setEmission(2, RED, 1);
        for (int x = 0; x < 6; x++) {
            p.set(x, 0, 0, 2);
        }
    }

    static void newOne(LightPropagator p) {
    }
}
