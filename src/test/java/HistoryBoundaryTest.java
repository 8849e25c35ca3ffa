/** Each sentence of "History" and "Details", and of promises 12, 37 and 38, that names a boundary. */
final class HistoryBoundaryTest extends Boundaries {
    public static void main(String[] args) {
        noChange();
        oneChange();
        sixChanges();
        sevenOnes();
        sevenChangesOfEachKind();
        manyChanges();
        sixthUndone();
        changesAfterUndo();
        changesThatChangeNothing();
        emptyBatchIsAChange();
        collectedSetIsNone();
        refusedCallsAreNone();
        otherCallsAreNone();
        undoLeavesTextAndFault();
        undoLeavesTheCopy();
        undoneTypesShineAsBefore();
        saveOfNothingAndOfAll();
        saveReplacesTheCopy();
        restoreWithoutCopy();
        restoreEndsTheHistory();
        restoreAgainAndAgain();
        restoreLeavesTextAndFault();
        restoreOfAllNumbers();
        end();
    }

    /** "NONE if there is none" */
    private static void noChange() {
        LightPropagator p = new LightPropagator();
        due("12: a new one", p.undo(), NONE);
        due("12: again", p.undo(), NONE);
        p.set(0, 0, 0, 1);
        due("12: a change", p.undo(), 0);
        due("12: none is left", p.undo(), NONE);
        due("13: undone", p.type(0, 0, 0), 0);
    }

    private static void oneChange() {
        LightPropagator p = new LightPropagator();
        p.set(11, 7, 11, 1);
        due("12: none is left", p.undo(), 0);
        due("13: undone", p.type(11, 7, 11), 0);
        due("12: effect", p.effect(-1), 8);
        due("34: consistent", p.isConsistent(), 1);
    }

    /** "The latest 6 changes can be undone, the latest first." */
    private static void sixChanges() {
        LightPropagator p = new LightPropagator();
        for (int x = 0; x < 6; x++) {
            p.set(x, 0, 0, 1);
        }
        for (int left = 5; left >= 0; left--) {
            due("12: left", p.undo(), left);
            due("13: the latest first", p.type(left, 0, 0), 0);
            due("37: the others stay", p.save(), left);
        }
        due("12: none is left", p.undo(), NONE);
    }

    private static void sevenOnes() {
        LightPropagator p = new LightPropagator();
        for (int x = 0; x < 7; x++) {
            p.set(x, 0, 0, 1);
        }
        for (int left = 5; left >= 0; left--) {
            due("12: left", p.undo(), left);
            due("37: the others stay", p.save(), left + 1);
        }
        due("12: the first of seven", p.undo(), NONE);
        due("13: it stays", p.type(0, 0, 0), 1);
        due("22: its cell is not in the effect", p.effect(0), 1);
    }

    /** Whatever the first of seven is, it stays, and whatever the seventh is, it pushes out the first. */
    private static void sevenChangesOfEachKind() {
        Call[] kinds = {p -> p.set(9, 9 - 2, 9, 3), p -> p.fill(9, 0, 9, 1, 8, 3), p -> p.setLoss(6, RED, 3),
            p -> p.setEmission(6, RED, 3), p -> read(p, "s9,7,9=3;l6,0,3"), p -> p.openBatch() + p.set(9, 7, 9, 3)
                    + p.closeBatch()};
        for (int kind = 0; kind < kinds.length; kind++) {
            LightPropagator p = new LightPropagator();
            kinds[kind].on(p);
            long first = p.checksum() + p.loss(6, RED) + p.emission(6, RED);
            for (int x = 0; x < 6; x++) {
                p.set(x, 0, 0, 1);
            }
            for (int left = 5; left >= 0; left--) {
                due("12: left of six after kind " + kind, p.undo(), left);
            }
            due("12: kind " + kind + " as the first", p.undo(), NONE);
            due("12: kind " + kind + " stays", p.checksum() + p.loss(6, RED) + p.emission(6, RED), first);

            p = new LightPropagator();
            for (int x = 0; x < 6; x++) {
                p.set(x, 0, 0, 1);
            }
            kinds[kind].on(p);
            for (int left = 5; left >= 0; left--) {
                due("12: left of seven with kind " + kind, p.undo(), left);
            }
            due("12: kind " + kind + " as the seventh", p.undo(), NONE);
            due("13: the first stays", p.type(0, 0, 0), 1);
            due("13: the second does not", p.type(1, 0, 0), 0);
            due("12: kind " + kind + " is undone", p.save() + p.loss(6, RED) + p.emission(6, RED), 1);
        }
    }

    private static void manyChanges() {
        LightPropagator p = new LightPropagator();
        for (int i = 0; i < 100; i++) {
            p.set(i % 12, 0, i / 12, 1);
        }
        for (int left = 5; left >= 0; left--) {
            due("12: left of 100", p.undo(), left);
            due("37: cells of 100", p.save(), 94 + left);
        }
        due("12: the 94th of 100", p.undo(), NONE);
    }

    /** After six undos there is room for six changes again. */
    private static void sixthUndone() {
        LightPropagator p = new LightPropagator();
        sevenChanges(p);
        for (int left = 5; left >= 0; left--) {
            p.undo();
        }
        for (int x = 6; x < 12; x++) {
            p.set(x, 0, 0, 1);
        }
        for (int left = 5; left >= 0; left--) {
            due("12: left of six new ones", p.undo(), left);
            due("13: the latest first", p.type(6 + left, 0, 0), 0);
        }
        due("12: no more", p.undo(), NONE);
        due("15: the first change stays", p.emission(2, RED), 1);
    }

    /** "Undoes the latest change that was not undone." */
    private static void changesAfterUndo() {
        LightPropagator p = new LightPropagator();
        p.set(0, 0, 0, 1);
        p.set(1, 0, 0, 1);
        p.set(2, 0, 0, 1);
        due("12: the third", p.undo(), 2);
        due("12: the second", p.undo(), 1);
        p.set(3, 0, 0, 1);
        due("12: the new one", p.undo(), 1);
        due("13: it is gone", p.type(3, 0, 0), 0);
        due("13: the first is not", p.type(0, 0, 0), 1);
        due("12: the first", p.undo(), 0);
        due("13: it is gone", p.type(0, 0, 0), 0);
        due("12: none is left", p.undo(), NONE);
    }

    /** "The calls ... that return no error code are changes, also if nothing changes" */
    private static void changesThatChangeNothing() {
        Call[] kinds = {p -> p.set(0, 0, 0, 0), p -> p.fill(0, 1, 0, 12, 7, 0), p -> p.setLoss(0, RED, 0),
            p -> p.setEmission(0, RED, 0), p -> p.openBatch() + p.closeBatch() - 1};
        for (int kind = 0; kind < kinds.length; kind++) {
            LightPropagator p = new LightPropagator();
            p.set(1, 0, 0, 1);
            due("History: effect of kind " + kind, kinds[kind].on(p), 0);
            due("12: kind " + kind, p.undo(), 1);
            due("13: nothing is undone", p.type(1, 0, 0), 1);
        }
        LightPropagator p = new LightPropagator();
        p.set(1, 0, 0, 1);
        due("10: a text that changes nothing", read(p, "s0,0,0=0;l0,0,0"), 2);
        due("12: a text that changes nothing", p.undo(), 1);
        for (int i = 0; i < 6; i++) {
            p.setLoss(0, RED, 0);
        }
        for (int left = 5; left >= 0; left--) {
            due("12: six that change nothing", p.undo(), left);
        }
        due("12: they push out the set", p.undo(), NONE);
        due("13: which stays", p.type(1, 0, 0), 1);
    }

    private static void emptyBatchIsAChange() {
        LightPropagator p = new LightPropagator();
        for (int i = 0; i < 7; i++) {
            p.openBatch();
            p.closeBatch();
        }
        for (int left = 5; left >= 0; left--) {
            due("12: seven empty batches", p.undo(), left);
        }
        due("12: the first of them", p.undo(), NONE);
    }

    /** "a set that is only collected is none" */
    private static void collectedSetIsNone() {
        LightPropagator p = new LightPropagator();
        sevenChanges(p);
        p.openBatch();
        collectForty(p);
        p.dropBatch();
        for (int left = 5; left >= 0; left--) {
            due("12: as before the batch", p.undo(), left);
        }
        due("12: no more", p.undo(), NONE);
        p.openBatch();
        p.set(0, 0, 0, 1);
        p.dropBatch();
        due("12: none after a collected set", p.undo(), NONE);
    }

    private static void refusedCallsAreNone() {
        Call[] refused = {p -> p.set(-1, 0, 0, 0), p -> p.set(0, 0, 0, 8), LightPropagator::closeBatch,
            p -> p.fill(0, 0, 0, 13, 1, 1), p -> p.fill(0, 8, 0, 1, 1, 1), p -> p.setLoss(8, 0, 0),
            p -> p.setLoss(0, 0, 16), p -> p.setEmission(0, 3, 0), p -> p.setEmission(0, 0, -1), LightPropagator::read,
            p -> read(p, "s0,0,0=1;"), p -> read(p, "s0,0,0=1;s0,0,0=8")};
        for (int i = 0; i < refused.length; i++) {
            LightPropagator p = new LightPropagator();
            due("History: refused " + i, refused[i].on(p) < 0 ? 1 : 0, 1);
            due("12: refused " + i + " is no change", p.undo(), NONE);
            sevenChanges(p);
            refused[i].on(p);
            due("12: the latest after refused " + i, p.undo(), 5);
            due("13: the latest after refused " + i, p.type(5, 0, 0), 0);
            due("13: the one before after refused " + i, p.type(4, 0, 0), 2);
        }
    }

    private static void otherCallsAreNone() {
        LightPropagator p = new LightPropagator();
        p.append(0x73302c30);
        p.save();
        p.openBatch();
        p.dropBatch();
        p.lightIf(0, 0, 0, 1, SUN);
        p.spread(0, 0, 0, RED);
        p.needed(0, 0, 0, RED, 1);
        p.isConsistent();
        p.regions(1);
        p.restore();
        due("12: no change", p.undo(), NONE);
    }

    private static void undoLeavesTextAndFault() {
        LightPropagator p = new LightPropagator();
        read(p, "s0,0,0=1;x");
        p.set(0, 0, 0, 1);
        write(p, "s1,1,1=1");
        due("12: the set", p.undo(), 0);
        due("11: the fault position stays", p.faultPosition(), 9);
        due("9: the text stays", p.append(0), 8);
        due("10: the text is read", p.read(), 1);
        due("12: the text", p.undo(), 0);
        due("11: it had no fault", p.faultPosition(), NONE);
        due("9: it does not come back", p.append(0), 0);
    }

    private static void undoLeavesTheCopy() {
        LightPropagator p = new LightPropagator();
        p.set(0, 0, 0, 1);
        p.save();
        p.undo();
        due("38: the copy stays", p.restore(), 1);
        due("13: its type", p.type(0, 0, 0), 1);
    }

    private static void undoneTypesShineAsBefore() {
        LightPropagator p = new LightPropagator();
        p.set(0, 0, 0, 2);
        p.setEmission(2, RED, 15);
        long lit = p.checksum();
        p.setEmission(2, RED, 0);
        due("12: the emission", p.undo(), 2);
        due("16: it shines again", p.light(11, 3, 0, RED), 1);
        due("36: all lights", p.checksum(), lit);
        due("34: consistent", p.isConsistent(), 1);
    }

    /** "Returns the number of cells with a type other than 0": 0 and 1152. */
    private static void saveOfNothingAndOfAll() {
        LightPropagator p = new LightPropagator();
        due("37: none", p.save(), 0);
        due("38: none", p.restore(), 0);
        p.fill(0, 0, 0, 12, 8, 7);
        due("37: all", p.save(), 1152);
        p.set(0, 0, 0, 0);
        p.set(11, 7, 11, 0);
        due("37: all but two", p.save(), 1150);
        p.fill(0, 0, 0, 12, 8, 0);
        due("38: all but two", p.restore(), 1150);
        due("13: the first", p.type(0, 0, 0), 0);
        due("13: the last", p.type(11, 7, 11), 0);
        due("13: the second", p.type(1, 0, 0), 7);
    }

    /** "It replaces an earlier copy." */
    private static void saveReplacesTheCopy() {
        LightPropagator p = new LightPropagator();
        p.set(0, 0, 0, 1);
        p.setLoss(2, RED, 3);
        p.setEmission(2, RED, 4);
        p.save();
        p.set(0, 0, 0, 0);
        p.set(1, 0, 0, 1);
        p.setLoss(2, RED, 5);
        p.setEmission(2, RED, 6);
        p.save();
        p.fill(0, 0, 0, 12, 8, 3);
        due("38: the later copy", p.restore(), 1);
        due("13: of the earlier copy", p.type(0, 0, 0), 0);
        due("13: of the later copy", p.type(1, 0, 0), 1);
        due("14: of the later copy", p.loss(2, RED), 5);
        due("15: of the later copy", p.emission(2, RED), 6);
        p.openBatch();
        p.set(2, 0, 0, 1);
        due("37: STATE", p.save(), STATE);
        p.closeBatch();
        due("38: a save that is refused leaves the copy", p.restore(), 1);
    }

    /** "NONE if nothing was saved" */
    private static void restoreWithoutCopy() {
        dueRefused("38: a new one", Boundaries::newOne, NONE, LightPropagator::restore);
        dueRefused("38: after changes", Boundaries::sevenChanges, NONE, LightPropagator::restore);
        dueRefused("38: after a save that was refused", p -> {
            p.openBatch();
            p.save();
            p.dropBatch();
        }, NONE, LightPropagator::restore);
        LightPropagator p = new LightPropagator();
        p.save();
        due("38: a copy of nothing but 0 is one", p.restore(), 0);
    }

    /** "No change can be undone afterwards", neither one before nor the restoring. */
    private static void restoreEndsTheHistory() {
        LightPropagator p = new LightPropagator();
        p.save();
        sevenChanges(p);
        due("38: restored", p.restore(), 0);
        due("12: none", p.undo(), NONE);
        due("38: without any change", p.restore(), 0);
        due("12: none", p.undo(), NONE);
        for (int x = 0; x < 7; x++) {
            p.set(x, 0, 0, 1);
        }
        for (int left = 5; left >= 0; left--) {
            due("12: six of seven new changes", p.undo(), left);
        }
        due("12: no more", p.undo(), NONE);
        due("13: the first of seven stays", p.type(0, 0, 0), 1);
    }

    /** "The copy remains available." */
    private static void restoreAgainAndAgain() {
        LightPropagator p = new LightPropagator();
        p.set(3, 3, 3, 1);
        p.save();
        long copy = p.checksum();
        for (int i = 0; i < 3; i++) {
            p.fill(0, 0, 0, 12, 8, i);
            p.setLoss(1, SUN, i);
            due("38: restored", p.restore(), 1);
            due("36: as it was saved", p.checksum(), copy);
            due("14: as it was saved", p.loss(1, SUN), 15);
            due("34: consistent", p.isConsistent(), 1);
        }
    }

    /** "Restoring leaves the text and the fault position." */
    private static void restoreLeavesTextAndFault() {
        LightPropagator p = new LightPropagator();
        write(p, "l0,0,7");
        p.save();
        due("10: the saved text is read", p.read(), 1);
        p.restore();
        due("9: it does not come back", p.append(0), 0);
        due("11: no fault", p.faultPosition(), NONE);
        read(p, "l0,0,8;");
        p.save();
        read(p, "l0,0,8;l0,0,16");
        write(p, "l0,0,9");
        p.restore();
        due("11: the fault position", p.faultPosition(), 7);
        due("9: the text", p.append(0), 6);
        due("10: it is read", p.read(), 1);
        due("14: its loss", p.loss(0, RED), 9);
    }

    /** "Saves the types of all cells and all losses and emissions." */
    private static void restoreOfAllNumbers() {
        LightPropagator p = new LightPropagator();
        for (int n = 0; n < 32; n++) {
            p.setLoss(n / 4, n % 4, n % 15 + 1);
        }
        for (int n = 0; n < 24; n++) {
            p.setEmission(n / 3, n % 3, n % 15 + 1);
        }
        p.save();
        for (int n = 0; n < 32; n++) {
            p.setLoss(n / 4, n % 4, 0);
        }
        for (int n = 0; n < 24; n++) {
            p.setEmission(n / 3, n % 3, 0);
        }
        p.restore();
        for (int n = 0; n < 32; n++) {
            due("38: loss " + n, p.loss(n / 4, n % 4), n % 15 + 1);
        }
        for (int n = 0; n < 24; n++) {
            due("38: emission " + n, p.emission(n / 3, n % 3), n % 15 + 1);
        }
    }
}
