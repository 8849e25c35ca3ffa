/** Promises 3, 4, 5 and 21: openBatch, closeBatch, dropBatch, batchSize. */
final class BatchTest extends Checks {
    public static void main(String[] args) {
        open();
        close();
        drop();
        size();
        whileOpen();
        end();
    }

    private static void open() {
        LightPropagator p = new LightPropagator();
        p.set(0, 0, 0, 1);
        due("3: open", p.openBatch(), 1);
        due("3: open twice", p.openBatch(), STATE);
        p.set(1, 0, 0, 1);
        due("3: open with an edit", p.openBatch(), STATE);
        due("3: the edit stays", p.batchSize(), 1);
        due("3: the effect stays", p.effect(-1), 1);
        p.closeBatch();
        due("3: open anew", p.openBatch(), 1);
        due("3: it is empty", p.batchSize(), 0);
        p.dropBatch();
        due("3: open after a drop", p.openBatch(), 1);
        p.dropBatch();
        due("3: opening is no change", p.undo(), 1);
    }

    private static void close() {
        LightPropagator p = new LightPropagator();
        due("4: none is open", p.closeBatch(), STATE);
        p.openBatch();
        p.set(4, 2, 4, 1);
        p.set(5, 2, 4, 1);
        p.set(4, 2, 4, 2);
        due("4: lights stay", p.light(5, 2, 4, SUN), 15);
        due("4: closed", p.closeBatch(), 3);
        due("4: the last edit of a cell counts", p.type(4, 2, 4), 2);
        due("4: the other edit", p.type(5, 2, 4), 1);
        due("4: effect", p.effect(-1), 3);
        due("4: light", p.light(5, 1, 4, SUN), 14);
        due("4: closed twice", p.closeBatch(), STATE);
        due("4: the effect stays", p.effect(-1), 3);
        p.openBatch();
        due("4: an empty one", p.closeBatch(), 0);
        due("4: its effect", p.effect(-1), 0);
        due("4: it is a change", p.undo(), 1);
        due("4: a batch is one change", p.undo(), 0);
        due("4: undone as a whole", p.type(4, 2, 4) + p.type(5, 2, 4), 0);
    }

    private static void drop() {
        LightPropagator p = new LightPropagator();
        due("5: none is open", p.dropBatch(), STATE);
        p.set(0, 0, 0, 1);
        p.openBatch();
        due("5: an empty one", p.dropBatch(), 0);
        p.openBatch();
        p.set(1, 0, 0, 1);
        p.set(2, 0, 0, 1);
        p.set(2, 0, 0, 3);
        due("5: dropped", p.dropBatch(), 2);
        due("5: dropped twice", p.dropBatch(), STATE);
        due("5: no edit is made", p.type(1, 0, 0) + p.type(2, 0, 0), 0);
        due("5: the effect stays", p.effect(-1), 1);
        due("5: closed", p.closeBatch(), STATE);
        p.openBatch();
        p.closeBatch();
        due("5: its edits do not come back", p.type(1, 0, 0), 0);
        due("5: dropping is no change", p.undo(), 1);
    }

    private static void size() {
        LightPropagator p = new LightPropagator();
        due("21: none is open", p.batchSize(), STATE);
        p.openBatch();
        due("21: empty", p.batchSize(), 0);
        p.set(3, 3, 3, 1);
        p.set(3, 3, 3, 2);
        due("21: one cell twice", p.batchSize(), 1);
        p.set(3, 3, 4, 0);
        due("21: two cells", p.batchSize(), 2);
        p.set(3, 9, 4, 0);
        due("21: after an error", p.batchSize(), 2);
        p.closeBatch();
        due("21: closed", p.batchSize(), STATE);
        p.openBatch();
        due("21: empty again", p.batchSize(), 0);
        p.dropBatch();
        due("21: dropped", p.batchSize(), STATE);
    }

    private static void whileOpen() {
        LightPropagator p = new LightPropagator();
        write(p, "s0,0,0=1");
        p.openBatch();
        p.set(3, 3, 3, 1);
        due("History: fill", p.fill(0, 0, 0, 1, 1, 1), STATE);
        due("History: setLoss", p.setLoss(2, 0, 1), STATE);
        due("History: setEmission", p.setEmission(2, 0, 1), STATE);
        due("History: read", p.read(), STATE);
        due("History: undo", p.undo(), STATE);
        due("History: save", p.save(), STATE);
        due("History: restore", p.restore(), STATE);
        due("History: append", p.append(';'), 9);
        due("History: nothing changed", p.type(0, 0, 0) + p.loss(2, 0) + p.emission(2, 0), 0);
        due("History: the batch stays", p.batchSize(), 1);
        due("History: what would be is asked without edits", p.lightIf(0, 0, 0, 0, SUN), 15 * 1152);
        due("History: consistent without edits", p.isConsistent(), 1);
    }
}
