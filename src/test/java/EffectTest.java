/** Promises 22 and 23: effect, effectChunks. */
final class EffectTest extends Checks {
    public static void main(String[] args) {
        cellsInOrder();
        chunks();
        oneCellInSeveralChannels();
        whatLeavesIt();
        end();
    }

    private static void cellsInOrder() {
        LightPropagator p = night();
        p.setEmission(2, RED, 2);
        due("22: at first a type without cells", p.effect(0), NONE);
        p.set(4, 4, 4, 2);
        int[] due = {number(4, 4, 3), number(4, 3, 4), number(3, 4, 4), number(4, 4, 4), number(5, 4, 4),
            number(4, 5, 4), number(4, 4, 5)};
        due("22: size", p.effect(-1), due.length);
        for (int i = 0; i < due.length; i++) {
            due("22: cell " + i, p.effect(i), due[i]);
        }
        due("22: the first index too great", p.effect(due.length), NONE);
        due("22: the greatest index", p.effect(Integer.MAX_VALUE), NONE);
        due("22: -2", p.effect(-2), BAD_VALUE);
        due("22: the least index", p.effect(Integer.MIN_VALUE), BAD_VALUE);
        p.setEmission(2, RED, 3);
        due("22: all of them and more", p.effect(-1), 25);
        p.set(9, 0, 9, 1);
        due("22: only the type changed", p.effect(-1), 0);
        p.fill(0, 0, 0, 12, 8, 1);
        due("22: darker cells", p.effect(-1), 25);
        p.undo();
        due("22: of undo", p.effect(-1), 25);
    }

    private static void chunks() {
        LightPropagator p = night();
        due("23: all", p.effectChunks(), 0);
        p.setEmission(2, RED, 1);
        for (int z = 0; z < 12; z++) {
            for (int x = 0; x < 12; x++) {
                p.set(x, 3, z, 2);
                due("23: chunk of " + x + " " + z, p.effectChunks(), 1 << 3 * (z / 4) + x / 4);
            }
        }
        p.setEmission(3, GREEN, 1);
        p.set(0, 0, 0, 3);
        due("22: the first cell alone", p.effect(0), 0);
        due("23: the first cell alone", p.effectChunks(), 1);
        p.fill(0, 0, 0, 12, 8, 0);
        due("23: all chunks", p.effectChunks(), 511);
        p.setEmission(2, RED, 2);
        p.set(3, 0, 4, 2);
        due("23: over the borders", p.effectChunks(), 1 | 8 | 16);
    }

    private static void oneCellInSeveralChannels() {
        LightPropagator p = new LightPropagator();
        read(p, "e2,0,1;e2,1,1;e2,2,1;l2,3,2");
        due("22: a cell counts once", p.set(5, 0, 5, 2), 1);
        due("22: its number", p.effect(0), number(5, 0, 5));
        due("22: no second", p.effect(1), NONE);
    }

    private static void whatLeavesIt() {
        LightPropagator p = new LightPropagator();
        p.set(5, 3, 5, 1);
        p.openBatch();
        p.set(1, 1, 1, 1);
        due("22: a set that is only collected", p.effect(-1), 4);
        p.dropBatch();
        due("22: dropBatch", p.effect(-1), 4);
        p.set(99, 0, 0, 0);
        p.fill(0, 0, 0, 0, 0, 0);
        p.setLoss(0, 0, 16);
        p.setEmission(0, 0, 16);
        p.closeBatch();
        read(p, "s0,0,0=1;x");
        due("22: error codes", p.effect(-1), 4);
        p.lightIf(5, 3, 5, 0, SUN);
        p.spread(5, 3, 5, RED);
        p.needed(5, 3, 5, RED, 4);
        p.isConsistent();
        p.regions(1);
        p.save();
        due("22: questions", p.effect(-1), 4);
        due("23: questions", p.effectChunks(), 1 << 4);
        p.openBatch();
        p.closeBatch();
        due("22: an empty batch", p.effect(-1), 0);
        due("23: an empty batch", p.effectChunks(), 0);
        p.undo();
        p.undo();
        due("22: undo", p.effect(-1), 4);
        p.undo();
        due("22: no undo", p.effect(-1), 4);
    }
}
