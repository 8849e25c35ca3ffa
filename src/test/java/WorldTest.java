/** Promises 1, 2, 6 and 13: a new object, set, fill, type. */
final class WorldTest extends Checks {
    public static void main(String[] args) {
        newObject();
        setOneCell();
        setWrongly();
        setInBatch();
        fillBox();
        fillAtBorders();
        fillWrongly();
        typeOfCells();
        end();
    }

    private static void newObject() {
        for (int z = 0; z < 12; z++) {
            LightPropagator p = new LightPropagator();
            for (int y = 0; y < 8; y++) {
                for (int x = 0; x < 12; x++) {
                    due("1: type of a new cell", p.type(x, y, z), 0);
                    due("1: lights of a new cell", p.lights(x, y, z), 15 << 12);
                }
            }
        }
        LightPropagator p = new LightPropagator();
        for (int type = 0; type < 8; type++) {
            for (int channel = 0; channel < 4; channel++) {
                due("1: loss " + type + " " + channel, p.loss(type, channel), type == 1 ? 15 : 0);
            }
            for (int channel = 0; channel < 3; channel++) {
                due("1: emission " + type + " " + channel, p.emission(type, channel), 0);
            }
        }
        due("1: effect", p.effect(-1), 0);
        due("1: effectChunks", p.effectChunks(), 0);
        due("1: batchSize", p.batchSize(), STATE);
        due("1: faultPosition", p.faultPosition(), NONE);
        due("1: undo", p.undo(), NONE);
        due("1: restore", p.restore(), NONE);
        due("1: isConsistent", p.isConsistent(), 1);
    }

    private static void setOneCell() {
        LightPropagator p = new LightPropagator();
        due("2: a block in the air shades three cells", p.set(5, 3, 5, 1), 4);
        due("2: type", p.type(5, 3, 5), 1);
        due("2: other type", p.type(6, 3, 5), 0);
        due("2: light in it", p.light(5, 3, 5, SUN), 0);
        due("2: light below", p.light(5, 2, 5, SUN), 14);
        due("2: the same again", p.set(5, 3, 5, 1), 0);
        due("2: effect of the same", p.effect(-1), 0);
        due("2: a type like 0", p.set(0, 0, 0, 7), 0);
        due("2: its type", p.type(0, 0, 0), 7);
        due("2: the last cell", p.set(11, 7, 11, 1), 8);
        due("2: the first cell", p.set(0, 0, 0, 1), 1);
        due("2: all are changes", p.undo(), 4);
    }

    private static void setWrongly() {
        LightPropagator p = new LightPropagator();
        p.set(1, 0, 1, 1);
        long before = p.checksum();
        for (int outside : OUTSIDE) {
            due("2: x " + outside, p.set(outside, 0, 0, 1), NO_SUCH_ELEMENT);
            due("2: y " + outside, p.set(0, outside, 0, 1), NO_SUCH_ELEMENT);
            due("2: z " + outside, p.set(0, 0, outside, 1), NO_SUCH_ELEMENT);
            due("2: type " + outside, p.set(0, 0, 0, outside), NO_SUCH_ELEMENT);
        }
        due("2: y 8", p.set(0, 8, 0, 1), NO_SUCH_ELEMENT);
        due("2: type 8", p.set(0, 0, 0, 8), NO_SUCH_ELEMENT);
        due("2: unchanged", p.checksum(), before);
        due("2: the effect stays", p.effect(-1), 1);
        due("2: no change", p.undo(), 0);
    }

    private static void setInBatch() {
        LightPropagator p = new LightPropagator();
        p.set(0, 0, 0, 1);
        p.openBatch();
        for (int i = 0; i < 40; i++) {
            due("2: collected", p.set(i % 12, i / 12, 3, 1), i + 1);
        }
        due("2: a 41st", p.set(0, 7, 0, 1), FULL);
        due("2: no such cell before FULL", p.set(0, 8, 0, 1), NO_SUCH_ELEMENT);
        due("2: no such type before FULL", p.set(0, 7, 0, 8), NO_SUCH_ELEMENT);
        due("2: one of the 40 again", p.set(3, 3, 3, 5), 40);
        due("2: types stay", p.type(3, 3, 3), 0);
        due("2: the effect stays", p.effect(-1), 1);
        p.closeBatch();
        due("2: the last edit of a cell counts", p.type(3, 3, 3), 5);
        due("2: another edit", p.type(2, 3, 3), 1);
        due("2: the 41st is not made", p.type(0, 7, 0), 0);
        due("2: a set that is only collected is no change", p.undo(), 1);
    }

    private static void fillBox() {
        for (int z = 0; z < 12; z++) {
            LightPropagator p = new LightPropagator();
            // The 2 by 2 columns are shut up to y 3; y 0 below them takes 14 from the sides.
            due("6: effect", p.fill(2, 1, 3, 2, 3, 1), 16);
            for (int y = 0; y < 8; y++) {
                for (int x = 0; x < 12; x++) {
                    boolean inside = x >= 2 && x <= 3 && y >= 1 && y <= 3 && z >= 3 && z <= 4;
                    due("6: type", p.type(x, y, z), inside ? 1 : 0);
                }
            }
            due("6: undone as a whole", p.undo(), 0);
            due("6: type after undo", p.type(3, 3, 4), 0);
        }
    }

    private static void fillAtBorders() {
        LightPropagator p = new LightPropagator();
        due("6: all", p.fill(0, 0, 0, 12, 8, 1), 1152);
        due("6: all again", p.fill(0, 0, 0, 12, 8, 1), 0);
        due("6: the last cell", p.fill(11, 7, 11, 1, 1, 0), 1);
        due("6: a corner", p.fill(10, 6, 10, 2, 2, 2), 7);
        due("6: its type", p.type(10, 6, 10), 2);
        due("6: beside it", p.type(9, 6, 10), 1);
    }

    private static void fillWrongly() {
        LightPropagator p = new LightPropagator();
        p.set(1, 0, 1, 1);
        long before = p.checksum();
        for (int outside : OUTSIDE) {
            due("6: x " + outside, p.fill(outside, 0, 0, 0, 1, 1), NO_SUCH_ELEMENT);
            due("6: y " + outside, p.fill(0, outside, 0, 1, 0, 1), NO_SUCH_ELEMENT);
            due("6: z " + outside, p.fill(0, 0, outside, 99, 1, 1), NO_SUCH_ELEMENT);
            due("6: type " + outside, p.fill(0, 0, 0, 1, 99, outside), NO_SUCH_ELEMENT);
            if (outside != 12) {
                due("6: width " + outside, p.fill(5, 5, 5, outside, 1, 1), BAD_VALUE);
            }
            due("6: height " + outside, p.fill(5, 5, 5, 1, outside, 1), BAD_VALUE);
        }
        due("6: type 8", p.fill(0, 0, 0, 0, 0, 8), NO_SUCH_ELEMENT);
        due("6: width 0", p.fill(0, 0, 0, 0, 1, 1), BAD_VALUE);
        due("6: height 0", p.fill(0, 0, 0, 1, 0, 1), BAD_VALUE);
        due("6: width 13", p.fill(0, 0, 0, 13, 1, 1), BAD_VALUE);
        due("6: height 9", p.fill(0, 0, 0, 1, 9, 1), BAD_VALUE);
        due("6: past x", p.fill(5, 0, 0, 8, 1, 1), BAD_VALUE);
        due("6: past y", p.fill(0, 5, 0, 1, 4, 1), BAD_VALUE);
        due("6: past z", p.fill(0, 0, 5, 8, 1, 1), BAD_VALUE);
        due("6: unchanged", p.checksum(), before);
        due("6: the effect stays", p.effect(-1), 1);
        p.openBatch();
        due("6: STATE first", p.fill(-1, 0, 0, 0, 0, 9), STATE);
        p.dropBatch();
        due("6: no change", p.undo(), 0);
    }

    private static void typeOfCells() {
        LightPropagator p = new LightPropagator();
        p.set(11, 7, 11, 7);
        p.set(0, 7, 0, 6);
        due("13: the last cell", p.type(11, 7, 11), 7);
        due("13: another", p.type(0, 7, 0), 6);
        due("13: a third", p.type(0, 0, 7), 0);
        for (int outside : OUTSIDE) {
            due("13: x " + outside, p.type(outside, 0, 0), NO_SUCH_ELEMENT);
            due("13: y " + outside, p.type(0, outside, 0), NO_SUCH_ELEMENT);
            due("13: z " + outside, p.type(0, 0, outside), NO_SUCH_ELEMENT);
        }
        due("13: y 8", p.type(0, 8, 0), NO_SUCH_ELEMENT);
        p.openBatch();
        p.set(11, 7, 11, 3);
        due("13: without the edits of the batch", p.type(11, 7, 11), 7);
    }
}
