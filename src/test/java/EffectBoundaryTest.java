/** Each sentence of "Effects" and "Details", and of promises 22 and 23, that names a boundary of effects. */
final class EffectBoundaryTest extends Boundaries {
    public static void main(String[] args) {
        emptyAtFirst();
        ofEachKindOfChange();
        ofAnyChannel();
        ofTheLatestChangeAlone();
        ofNothing();
        ofAllCells();
        ofOneCell();
        indexes();
        firstAndLastChunk();
        staysAfterDropBatch();
        staysAfterCollectedSet();
        staysAfterOpenBatch();
        staysAfterErrors();
        staysAfterQuestions();
        onlyTheTypeChanged();
        theSameValueAgain();
        emptyAfterRestore();
        end();
    }

    /** "it is empty at first" */
    private static void emptyAtFirst() {
        LightPropagator p = new LightPropagator();
        due("22: size", p.effect(-1), 0);
        due("22: index 0", p.effect(0), NONE);
        due("22: index -2", p.effect(-2), BAD_VALUE);
        due("23: chunks", p.effectChunks(), 0);
    }

    /** "The effect of the latest edit, batch, fill, text, change of a type or undo" */
    private static void ofEachKindOfChange() {
        LightPropagator p = night();
        due("8: a type without cells", p.setEmission(2, RED, 2), 0);
        due("2: an edit", p.set(0, 0, 0, 2), 4);
        due("22: an edit", p.effect(-1), 4);
        p.openBatch();
        p.set(11, 7, 11, 2);
        p.set(11, 0, 11, 2);
        due("4: a batch", p.closeBatch(), 8);
        due("22: a batch", p.effect(-1), 8);
        due("6: a fill", p.fill(0, 0, 0, 1, 1, 0), 4);
        due("22: a fill", p.effect(-1), 4);
        due("10: a text", read(p, "s0,0,0=2;s0,7,0=2;s5,3,5=2"), 3);
        due("22: a text", p.effect(-1), 4 + 4 + 7);
        due("7: a loss puts out all around four lamps in corners and one inside", p.setLoss(0, RED, 1), 4 * 3 + 6);
        due("22: a loss", p.effect(-1), 18);
        due("8: an emission", p.setEmission(2, RED, 0), 5);
        due("22: an emission", p.effect(-1), 5);
        due("12: undo", p.undo(), 5);
        due("22: undo", p.effect(-1), 5);
        due("12: undo", p.undo(), 4);
        due("22: another undo", p.effect(-1), 18);
    }

    /** "the cells for which a light of any channel changed" */
    private static void ofAnyChannel() {
        for (int channel = 0; channel < 3; channel++) {
            LightPropagator p = new LightPropagator();
            p.set(6, 6, 6, 2);
            due("8: channel " + channel, p.setEmission(2, channel, 1), 1);
            due("22: channel " + channel, p.effect(0), number(6, 6, 6));
        }
        LightPropagator p = new LightPropagator();
        p.set(6, 0, 6, 2);
        due("7: sunlight", p.setLoss(2, SUN, 1), 1);
        due("22: sunlight", p.effect(0), number(6, 0, 6));
        read(p, "l2,3,0;e2,0,1;e2,1,1;e2,2,1");
        due("22: all channels of one cell", p.effect(-1), 1);
    }

    private static void ofTheLatestChangeAlone() {
        LightPropagator p = night();
        p.setEmission(2, RED, 1);
        p.set(0, 0, 0, 2);
        p.set(11, 7, 11, 2);
        due("22: size", p.effect(-1), 1);
        due("22: cell", p.effect(0), 1195);
        due("23: chunks", p.effectChunks(), 1 << 8);
    }

    private static void ofNothing() {
        LightPropagator p = new LightPropagator();
        p.set(5, 5, 5, 1);
        due("2: the same type", p.set(5, 5, 5, 1), 0);
        due("22: size", p.effect(-1), 0);
        due("22: index 0", p.effect(0), NONE);
        due("23: chunks", p.effectChunks(), 0);
    }

    /** The greatest effect: 1152 cells, the last one with the index 1151. */
    private static void ofAllCells() {
        LightPropagator p = new LightPropagator();
        due("6: all", p.fill(0, 0, 0, 12, 8, 1), 1152);
        due("22: size", p.effect(-1), 1152);
        due("22: the first", p.effect(0), 0);
        due("22: the 12th", p.effect(11), 11);
        due("22: the 13th is a y more", p.effect(12), number(0, 1, 0));
        due("22: the 96th", p.effect(95), number(11, 7, 0));
        due("22: the 97th is a z more", p.effect(96), number(0, 0, 1));
        due("22: the last", p.effect(1151), 1195);
        due("22: no more", p.effect(1152), NONE);
        due("23: all chunks", p.effectChunks(), 511);
    }

    private static void ofOneCell() {
        for (int[] c : CORNERS) {
            LightPropagator p = night();
            p.setEmission(2, BLUE, 1);
            due("2: one cell", p.set(c[0], c[1], c[2], 2), 1);
            due("22: size", p.effect(-1), 1);
            due("22: the cell", p.effect(0), number(c[0], c[1], c[2]));
            due("22: no second", p.effect(1), NONE);
        }
    }

    /** "BAD_VALUE if index is less than -1 (checked first); NONE if there is no such cell." */
    private static void indexes() {
        LightPropagator p = new LightPropagator();
        p.set(0, 7, 0, 1);
        due("22: -1 is the size", p.effect(-1), 8);
        due("22: 0", p.effect(0), 0);
        due("22: size - 1", p.effect(7), 84);
        due("22: size", p.effect(8), NONE);
        due("22: size + 1", p.effect(9), NONE);
        due("22: greatest int", p.effect(GREATEST), NONE);
        due("22: -2", p.effect(-2), BAD_VALUE);
        due("22: least int", p.effect(LEAST), BAD_VALUE);
    }

    /** "the chunks as bits, bit c for chunk c": 1 for the first, 256 for the last. */
    private static void firstAndLastChunk() {
        LightPropagator p = night();
        p.setEmission(2, RED, 1);
        p.set(0, 0, 0, 2);
        due("23: the first", p.effectChunks(), 1);
        p.set(11, 7, 11, 2);
        due("23: the last", p.effectChunks(), 256);
        p.setEmission(2, RED, 0);
        due("23: both", p.effectChunks(), 257);
    }

    /** "The effect stays as it is after dropBatch" */
    private static void staysAfterDropBatch() {
        LightPropagator p = new LightPropagator();
        p.set(0, 7, 0, 1);
        p.openBatch();
        p.set(5, 5, 5, 1);
        p.dropBatch();
        due("22: after dropBatch", p.effect(-1), 8);
        p.openBatch();
        p.dropBatch();
        due("22: after dropBatch of an empty one", p.effect(-1), 8);
        due("23: after dropBatch", p.effectChunks(), 1);
    }

    /** "after a set that is only collected" */
    private static void staysAfterCollectedSet() {
        LightPropagator p = new LightPropagator();
        p.set(0, 7, 0, 1);
        p.openBatch();
        p.set(5, 5, 5, 1);
        due("22: after a collected set", p.effect(-1), 8);
        p.set(5, 5, 5, 0);
        due("22: after two", p.effect(-1), 8);
        due("22: its cell", p.effect(7), 84);
    }

    private static void staysAfterOpenBatch() {
        LightPropagator p = new LightPropagator();
        p.set(0, 7, 0, 1);
        p.openBatch();
        due("22: after openBatch", p.effect(-1), 8);
    }

    /** "and after calls that return an error code" */
    private static void staysAfterErrors() {
        Call[] errors = {p -> p.set(0, 0, 0, 8), LightPropagator::closeBatch, LightPropagator::dropBatch,
            p -> p.fill(0, 0, 0, 0, 0, 0), p -> p.setLoss(0, 0, 16), p -> p.setEmission(0, 0, 16),
            p -> p.append(1), LightPropagator::read, LightPropagator::restore, p -> read(p, "s0,0,0=1;s0,0,0=8"),
            p -> p.effect(-2), p -> p.effect(8)};
        for (int i = 0; i < errors.length; i++) {
            LightPropagator p = new LightPropagator();
            p.set(0, 7, 0, 1);
            due("22: error " + i, errors[i].on(p) < 0 ? 1 : 0, 1);
            due("22: after error " + i, p.effect(-1), 8);
            due("22: first cell after error " + i, p.effect(0), 0);
        }
        LightPropagator p = new LightPropagator();
        p.set(0, 7, 0, 1);
        p.undo();
        due("12: none", p.undo(), NONE);
        due("22: after undo that answers NONE", p.effect(-1), 8);
        p.openBatch();
        Call[] states = {LightPropagator::openBatch, q -> q.fill(0, 0, 0, 1, 1, 1), q -> q.setLoss(0, 3, 1),
            q -> q.setEmission(0, 0, 1), LightPropagator::read, LightPropagator::undo, LightPropagator::save,
            LightPropagator::restore};
        for (int i = 0; i < states.length; i++) {
            due("22: STATE " + i, states[i].on(p), STATE);
            due("22: after STATE " + i, p.effect(-1), 8);
        }
    }

    private static void staysAfterQuestions() {
        LightPropagator p = new LightPropagator();
        p.set(0, 7, 0, 1);
        p.lightIf(0, 7, 0, 0, SUN);
        p.spread(0, 7, 0, RED);
        p.needed(0, 6, 0, RED, 15);
        p.isConsistent();
        p.regions(1);
        p.save();
        p.append('s');
        due("22: size", p.effect(-1), 8);
        due("23: chunks", p.effectChunks(), 1);
    }

    /** "Cells of which only the type changed are not in the effect." */
    private static void onlyTheTypeChanged() {
        LightPropagator p = night();
        p.setEmission(2, RED, 1);
        due("6: types without light", p.fill(0, 0, 0, 12, 8, 3), 0);
        due("22: size", p.effect(-1), 0);
        p.openBatch();
        p.set(0, 0, 0, 4);
        p.set(1, 0, 0, 2);
        due("4: only one of two is lit", p.closeBatch(), 1);
        due("22: it", p.effect(0), 1);
        p.setEmission(5, RED, 1);
        due("2: another type with the same light", p.set(1, 0, 0, 5), 0);
        due("10: a text", read(p, "f0,0,0,11,7,11=6;s1,0,0=5"), 2);
        due("22: of the text", p.effect(-1), 0);
        due("12: undo", p.undo(), 5);
        due("22: of undo", p.effect(-1), 0);
    }

    /** "Setting a loss or an emission to its value is a change with an empty effect." */
    private static void theSameValueAgain() {
        LightPropagator p = new LightPropagator();
        p.set(0, 7, 0, 1);
        due("7: the same loss", p.setLoss(1, SUN, 15), 0);
        due("22: its effect", p.effect(-1), 0);
        due("12: it is a change", p.undo(), 1);
        due("12: the set is the change before", p.undo(), 0);
        p.set(0, 7, 0, 1);
        due("8: the same emission", p.setEmission(1, RED, 0), 0);
        due("22: its effect", p.effect(-1), 0);
        due("12: it is a change", p.undo(), 1);
    }

    /** "No change can be undone afterwards, and the effect is empty." */
    private static void emptyAfterRestore() {
        LightPropagator p = new LightPropagator();
        p.save();
        p.fill(0, 0, 0, 12, 8, 1);
        due("38: nothing but 0", p.restore(), 0);
        due("22: size", p.effect(-1), 0);
        due("22: index 0", p.effect(0), NONE);
        due("23: chunks", p.effectChunks(), 0);
        due("16: the lights are new", p.light(0, 0, 0, SUN), 15);
    }
}
