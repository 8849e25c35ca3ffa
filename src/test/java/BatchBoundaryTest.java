/** Each sentence of "Batches" and "Details", and of promises 2 to 5 and 21, that names a boundary of batches. */
final class BatchBoundaryTest extends Boundaries {
    public static void main(String[] args) {
        openAndOpenAgain();
        emptyBatchIsClosed();
        emptyBatchIsDropped();
        batchOfOneEdit();
        batchOfFortyEdits();
        fortyFirstEdit();
        fortyEditsTakeTheirOwnCells();
        fullBatchThatIsDropped();
        batchAfterFullBatch();
        lastEditOfACellCounts();
        editToThePresentType();
        lightsAndTypesStay();
        allAtOnce();
        closedWithoutOpen();
        droppedWithoutOpen();
        sizeWithoutOpen();
        batchOfSevenChanges();
        end();
    }

    /** "Returns 1; STATE if one is open." */
    private static void openAndOpenAgain() {
        LightPropagator p = new LightPropagator();
        due("3: the first", p.openBatch(), 1);
        due("3: an empty one is open", p.openBatch(), STATE);
        collectForty(p);
        due("3: a full one is open", p.openBatch(), STATE);
        due("21: which stays full", p.batchSize(), 40);
        p.closeBatch();
        due("3: after closing", p.openBatch(), 1);
        p.dropBatch();
        due("3: after dropping", p.openBatch(), 1);
    }

    /** "closes it, also an empty one, which is a change" */
    private static void emptyBatchIsClosed() {
        LightPropagator p = new LightPropagator();
        p.set(0, 0, 0, 1);
        long before = p.checksum();
        p.openBatch();
        due("21: empty", p.batchSize(), 0);
        due("4: empty", p.closeBatch(), 0);
        due("21: closed", p.batchSize(), STATE);
        due("22: its effect", p.effect(-1), 0);
        due("36: nothing changed", p.checksum(), before);
        due("12: it is a change", p.undo(), 1);
        due("36: nothing is undone", p.checksum(), before);
        due("12: the set is the change before", p.undo(), 0);
    }

    /** "Returns the number of edits that it had": 0; and it is no change. */
    private static void emptyBatchIsDropped() {
        dueDropped(0, p -> { });
    }

    private static void dueDropped(int size, Setup edits) {
        LightPropagator p = new LightPropagator();
        eventful(p);
        p.openBatch();
        edits.on(p);
        due("5: dropped", p.dropBatch(), size);
        dueLike("5: dropBatch of " + size, p, Boundaries::eventful);
    }

    private static void batchOfOneEdit() {
        LightPropagator p = new LightPropagator();
        p.openBatch();
        due("2: the first edit", p.set(11, 7, 11, 1), 1);
        due("21: one edit", p.batchSize(), 1);
        due("4: a block in the corner of the top", p.closeBatch(), 8);
        due("13: its type", p.type(11, 7, 11), 1);
        due("12: one change", p.undo(), 0);
        dueDropped(1, q -> q.set(11, 7, 11, 1));
    }

    /** "A batch has at most 40 edits": the 40th is taken, and all are made. */
    private static void batchOfFortyEdits() {
        LightPropagator p = night();
        p.setEmission(1, RED, 1);
        p.openBatch();
        collectForty(p);
        due("21: 40 edits", p.batchSize(), 40);
        due("4: 40 cells", p.closeBatch(), 40);
        for (int edit = 0; edit < 40; edit++) {
            due("13: edit " + edit, p.type(edit % 12, 0, edit / 12), 1);
            due("22: edit " + edit, p.effect(edit), 100 * (edit / 12) + edit % 12);
        }
        due("37: no other cell", p.save(), 40);
        due("12: one change", p.undo(), 5);
        due("37: undone as a whole", p.save(), 0);
    }

    /** "FULL if the batch has 40 edits and none for this cell" */
    private static void fortyFirstEdit() {
        LightPropagator p = new LightPropagator();
        p.openBatch();
        collectForty(p);
        due("2: the 41st", p.set(4, 0, 3, 1), FULL);
        due("2: the last cell", p.set(11, 7, 11, 0), FULL);
        due("2: the 41st again", p.set(4, 0, 3, 1), FULL);
        due("21: after FULL", p.batchSize(), 40);
        p.closeBatch();
        due("37: 40 are made", p.save(), 40);
        due("13: the 41st is not", p.type(4, 0, 3), 0);
        due("2: no batch is open", p.set(4, 0, 3, 1), 1);
    }

    /** The first, the last and another of the 40 cells are taken again, and their last types count. */
    private static void fortyEditsTakeTheirOwnCells() {
        LightPropagator p = new LightPropagator();
        p.openBatch();
        collectForty(p);
        due("2: the first of 40", p.set(0, 0, 0, 2), 40);
        due("2: the last of 40", p.set(3, 0, 3, 3), 40);
        due("2: the 20th of 40", p.set(7, 0, 1, 4), 40);
        due("2: still FULL for another", p.set(0, 1, 0, 1), FULL);
        p.closeBatch();
        due("13: the first", p.type(0, 0, 0), 2);
        due("13: the last", p.type(3, 0, 3), 3);
        due("13: the 20th", p.type(7, 0, 1), 4);
        due("13: the second", p.type(1, 0, 0), 1);
        due("37: 40 in all", p.save(), 40);
    }

    private static void fullBatchThatIsDropped() {
        dueDropped(40, Boundaries::collectForty);
        dueDropped(40, p -> {
            collectForty(p);
            p.set(11, 7, 11, 1);
        });
    }

    /** A new batch has no edits, and room for 40. */
    private static void batchAfterFullBatch() {
        LightPropagator p = new LightPropagator();
        for (int end = 0; end < 2; end++) {
            p.openBatch();
            due("21: a new one", p.batchSize(), 0);
            collectForty(p);
            due("2: FULL", p.set(0, 7, 0, 1), FULL);
            due("4 or 5: its end", end == 0 ? p.dropBatch() : p.closeBatch(), 40);
        }
        p.openBatch();
        due("21: after both", p.batchSize(), 0);
        due("2: the first edit", p.set(0, 0, 0, 0), 1);
        p.closeBatch();
        due("37: the edits before are not made again", p.save(), 39);
    }

    /** "of several edits of the same cell the last one counts" */
    private static void lastEditOfACellCounts() {
        LightPropagator p = new LightPropagator();
        p.openBatch();
        for (int type = 0; type < 8; type++) {
            due("2: type " + type, p.set(3, 3, 3, type), 1);
        }
        due("2: another cell", p.set(3, 3, 4, 5), 2);
        due("2: the first cell again", p.set(3, 3, 3, 6), 2);
        p.closeBatch();
        due("13: the last type", p.type(3, 3, 3), 6);
        due("13: the other cell", p.type(3, 3, 4), 5);
    }

    /** Such an edit is collected, too, and takes back an earlier one. */
    private static void editToThePresentType() {
        LightPropagator p = new LightPropagator();
        p.set(3, 7, 3, 1);
        p.openBatch();
        due("2: the present type", p.set(0, 0, 0, 0), 1);
        p.set(3, 7, 3, 0);
        due("2: back to the present type", p.set(3, 7, 3, 1), 2);
        due("4: no effect", p.closeBatch(), 0);
        due("13: as before", p.type(3, 7, 3), 1);
        due("12: a change", p.undo(), 1);
    }

    /** "the lights and types stay as they are", and "Questions are answered without the edits of an open batch." */
    private static void lightsAndTypesStay() {
        LightPropagator p = new LightPropagator();
        p.setEmission(2, RED, 15);
        long before = p.checksum();
        p.openBatch();
        p.set(5, 3, 5, 2);
        p.set(0, 7, 0, 1);
        due("36: checksum", p.checksum(), before);
        due("13: type", p.type(5, 3, 5), 0);
        due("16: light", p.light(5, 3, 5, RED), 0);
        due("17: lights", p.lights(0, 7, 0), 15 * 4096);
        due("18: origin", p.origin(5, 3, 5, RED), NONE);
        due("19: wayLength", p.wayLength(0, 0, 0, SUN), 7);
        due("20: wayEnd", p.wayEnd(5, 3, 5, RED), NONE);
        due("22: effect", p.effect(-1), 0);
        due("23: effectChunks", p.effectChunks(), 0);
        due("24: lightIf", p.lightIf(1, 0, 0, 0, RED), 0);
        due("25: spread", p.spread(5, 3, 5, RED), 0);
        due("26: needed", p.needed(5, 3, 5, RED, 1), 2);
        due("27: chunkSum", p.chunkSum(0, SUN), 15 * 128);
        due("28: crossings", p.crossings(5, 4, RED), 0);
        due("29: dark", p.dark(14), 0);
        due("30: skyHeight", p.skyHeight(0, 0), 0);
        due("31: ray", p.ray(0, 0, 0, 3, SUN), 16 * 7 + 15);
        due("32: brightest", p.brightest(RED), NONE);
        due("33: regions", p.regions(1), 0);
        due("34: isConsistent", p.isConsistent(), 1);
        due("35: histogram", p.histogram(RED, 0), 1152);
    }

    /** "When it is closed, all are made at once": the effect is that of all. */
    private static void allAtOnce() {
        LightPropagator p = night();
        p.setEmission(2, RED, 1);
        p.set(0, 0, 0, 2);
        p.openBatch();
        p.set(0, 0, 0, 0);
        p.set(4, 4, 4, 2);
        p.set(11, 7, 11, 2);
        due("4: all", p.closeBatch(), 3);
        due("22: the first", p.effect(0), 0);
        due("22: the last", p.effect(2), 1195);
        due("23: chunks", p.effectChunks(), 1 | 1 << 4 | 1 << 8);
    }

    /** "STATE if none is open" */
    private static void closedWithoutOpen() {
        dueRefused("4: none is open", Boundaries::newOne, STATE, LightPropagator::closeBatch);
        dueRefused("4: none is open", Boundaries::eventful, STATE, LightPropagator::closeBatch);
        dueRefused("4: it is closed", BatchBoundaryTest::emptyBatch, STATE, LightPropagator::closeBatch);
    }

    private static void droppedWithoutOpen() {
        dueRefused("5: none is open", Boundaries::newOne, STATE, LightPropagator::dropBatch);
        dueRefused("5: none is open", Boundaries::eventful, STATE, LightPropagator::dropBatch);
        dueRefused("5: it is closed", BatchBoundaryTest::emptyBatch, STATE, LightPropagator::dropBatch);
    }

    private static void emptyBatch(LightPropagator p) {
        p.openBatch();
        p.closeBatch();
    }

    private static void sizeWithoutOpen() {
        dueRefused("21: none is open", Boundaries::newOne, STATE, LightPropagator::batchSize);
        dueRefused("21: none is open", Boundaries::eventful, STATE, LightPropagator::batchSize);
        dueRefused("21: it is closed", BatchBoundaryTest::emptyBatch, STATE, LightPropagator::batchSize);
    }

    /** "A change of a ... batch is undone as a whole": a batch of 40 edits is one of the six. */
    private static void batchOfSevenChanges() {
        LightPropagator p = new LightPropagator();
        p.openBatch();
        collectForty(p);
        p.closeBatch();
        for (int x = 0; x < 5; x++) {
            p.set(x, 5, 5, 1);
        }
        for (int left = 5; left >= 0; left--) {
            due("12: left", p.undo(), left);
        }
        due("37: all 40 are undone", p.save(), 0);
    }
}
