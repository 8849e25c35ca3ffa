/** Promises 12, 37 and 38: undo, save, restore. */
final class HistoryTest extends Checks {
    public static void main(String[] args) {
        undoEachKind();
        undoSix();
        undoAndGoOn();
        undoAndRestoreTypes();
        undoWhatDidNothing();
        save();
        restore();
        restoreAll();
        end();
    }

    private static void undoEachKind() {
        LightPropagator p = new LightPropagator();
        long[] checksums = new long[6];
        checksums[0] = p.checksum();
        p.setEmission(2, RED, 9);
        p.set(4, 4, 4, 2);
        checksums[2] = p.checksum();
        p.fill(0, 6, 0, 12, 1, 1);
        checksums[3] = p.checksum();
        p.openBatch();
        p.set(5, 6, 5, 0);
        p.set(4, 6, 4, 0);
        p.closeBatch();
        checksums[4] = p.checksum();
        p.setLoss(1, SUN, 3);
        checksums[5] = p.checksum();
        read(p, "s0,0,0=2;l0,0,2");
        due("12: a text", p.undo(), 5);
        due("12: checksum", p.checksum(), checksums[5]);
        due("12: its loss", p.loss(0, 0), 0);
        due("12: a loss", p.undo(), 4);
        due("12: its value", p.loss(1, SUN), 15);
        due("12: checksum", p.checksum(), checksums[4]);
        due("12: a batch", p.undo(), 3);
        due("12: checksum", p.checksum(), checksums[3]);
        due("12: a fill", p.undo(), 2);
        due("12: checksum", p.checksum(), checksums[2]);
        due("12: a set", p.undo(), 1);
        due("12: an emission", p.undo(), 0);
        due("12: its value", p.emission(2, RED), 0);
        due("12: checksum", p.checksum(), checksums[0]);
        due("12: none is left", p.undo(), NONE);
        due("12: consistent", p.isConsistent(), 1);
    }

    private static void undoSix() {
        LightPropagator p = new LightPropagator();
        for (int x = 0; x < 8; x++) {
            due("12: on the ground", p.set(x, 0, 0, 1), 1);
        }
        for (int left = 5; left >= 0; left--) {
            due("12: left", p.undo(), left);
            due("12: the effect of undo", p.effect(-1), 1);
            due("12: its cell", p.effect(0), left + 2);
            due("12: undone", p.type(left + 2, 0, 0), 0);
            due("12: not undone", p.type(left + 1, 0, 0), 1);
        }
        due("12: only six", p.undo(), NONE);
        due("12: the effect stays", p.effect(-1), 1);
        due("12: the two first stay", p.type(0, 0, 0) + p.type(1, 0, 0), 2);
    }

    private static void undoAndGoOn() {
        LightPropagator p = new LightPropagator();
        p.set(0, 0, 0, 1);
        p.set(1, 0, 0, 1);
        due("12: one undone", p.undo(), 1);
        p.set(2, 0, 0, 1);
        due("12: the new one", p.undo(), 1);
        due("12: is gone", p.type(2, 0, 0), 0);
        due("12: not undone twice", p.undo(), 0);
        due("12: the first is gone", p.type(0, 0, 0), 0);
        p.openBatch();
        due("12: STATE before NONE", p.undo(), STATE);
    }

    private static void undoAndRestoreTypes() {
        for (int type = 0; type < 8; type++) {
            for (int channel = 0; channel < 4; channel++) {
                LightPropagator p = new LightPropagator();
                p.setLoss(type, channel, 5);
                p.save();
                p.setLoss(type, channel, 6);
                p.undo();
                due("12: loss " + type + " " + channel, p.loss(type, channel), 5);
                p.undo();
                due("12: first loss " + type + " " + channel, p.loss(type, channel), type == 1 ? 15 : 0);
                p.restore();
                due("38: loss " + type + " " + channel, p.loss(type, channel), 5);
            }
            for (int channel = 0; channel < 3; channel++) {
                LightPropagator p = new LightPropagator();
                p.setEmission(type, channel, 5);
                p.save();
                p.setEmission(type, channel, 6);
                p.undo();
                due("12: emission " + type + " " + channel, p.emission(type, channel), 5);
                p.undo();
                due("12: first emission " + type + " " + channel, p.emission(type, channel), 0);
                p.restore();
                due("38: emission " + type + " " + channel, p.emission(type, channel), 5);
            }
        }
    }

    private static void undoWhatDidNothing() {
        LightPropagator p = new LightPropagator();
        p.set(0, 0, 0, 1);
        p.set(0, 0, 0, 1);
        p.setLoss(0, 0, 0);
        p.setEmission(0, 0, 0);
        read(p, "s0,0,0=1");
        due("12: changes that change nothing", p.undo(), 4);
        due("12: without effect", p.effect(-1), 0);
        p.undo();
        p.undo();
        due("12: the set that did nothing", p.undo(), 1);
        due("12: the cell stays", p.type(0, 0, 0), 1);
        due("12: the set", p.undo(), 0);
        due("12: the cell goes", p.type(0, 0, 0), 0);
    }

    private static void save() {
        LightPropagator p = new LightPropagator();
        due("37: nothing but 0", p.save(), 0);
        p.set(0, 0, 0, 1);
        p.set(11, 7, 11, 7);
        due("37: two", p.save(), 2);
        due("37: the effect stays", p.effect(-1), 0);
        p.openBatch();
        due("37: STATE", p.save(), STATE);
        p.dropBatch();
        due("37: it is no change", p.undo(), 1);
        due("37: it is left by undo", p.restore(), 2);
        due("37: all of it", p.type(11, 7, 11), 7);
        p.fill(0, 0, 0, 12, 8, 3);
        due("37: all", p.save(), 1152);
    }

    private static void restore() {
        LightPropagator p = new LightPropagator();
        p.openBatch();
        due("38: STATE before NONE", p.restore(), STATE);
        p.dropBatch();
        due("38: none is saved", p.restore(), NONE);
        p.set(1, 1, 1, 1);
        p.save();
        p.set(2, 2, 2, 1);
        p.set(3, 3, 3, 1);
        due("38: restored", p.restore(), 1);
        due("38: type", p.type(2, 2, 2) + p.type(3, 3, 3), 0);
        due("38: the effect is empty", p.effect(-1), 0);
        due("38: its chunks", p.effectChunks(), 0);
        due("38: no change can be undone", p.undo(), NONE);
        due("38: lights", p.light(3, 3, 3, SUN), 15);
        due("38: consistent", p.isConsistent(), 1);
        p.set(4, 4, 4, 1);
        due("38: again", p.restore(), 1);
        due("38: the same", p.type(1, 1, 1) * 8 + p.type(4, 4, 4), 8);
        p.set(5, 5, 5, 1);
        p.save();
        p.fill(0, 0, 0, 12, 8, 0);
        due("38: the later copy", p.restore(), 2);
        due("38: its type", p.type(5, 5, 5), 1);
    }

    private static void restoreAll() {
        LightPropagator p = new LightPropagator();
        p.setLoss(3, GREEN, 6);
        p.setEmission(4, BLUE, 7);
        p.set(6, 6, 6, 4);
        p.save();
        long checksum = p.checksum();
        p.setLoss(3, GREEN, 1);
        p.setEmission(4, BLUE, 1);
        read(p, "s0,0");
        write(p, "s0,0,0=1");
        due("38: all", p.restore(), 1);
        due("38: loss", p.loss(3, GREEN), 6);
        due("38: emission", p.emission(4, BLUE), 7);
        due("38: checksum", p.checksum(), checksum);
        due("38: the fault position stays", p.faultPosition(), 4);
        due("38: the text stays", p.append(0), 8);
        due("38: the text is read", p.read(), 1);
        due("38: undone to what was restored", p.undo(), 0);
        due("38: checksum", p.checksum(), checksum);
    }
}
