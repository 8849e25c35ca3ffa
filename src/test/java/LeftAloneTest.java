/**
 * What calls leave as it is, also those that are answered without an error: text, fault position, copy, losses and
 * emissions, and, after questions, everything. All is compared with numbers, as a twin would be asked the same way.
 */
final class LeftAloneTest extends Boundaries {
    public static void main(String[] args) {
        questionsLeaveEverything();
        questionsLeaveTheOpenBatch();
        changesLeaveTextFaultAndCopy();
        changesLeaveOtherNumbers();
        batchesLeaveTextFaultAndCopy();
        readLeavesTheCopy();
        undoLeavesTheRest();
        saveLeavesTheRest();
        restoreLeavesTextAndFault();
        refusedRestoreLeavesTheRest();
        end();
    }

    private static final Call[] QUESTIONS = {p -> p.type(0, 0, 0), p -> p.loss(1, 1), p -> p.loss(8, 0),
        p -> p.emission(2, 0), p -> p.emission(0, 3), p -> p.light(0, 0, 0, 3), p -> p.lights(4, 4, 4),
        p -> p.origin(4, 4, 4, 0), p -> p.wayLength(4, 4, 5, 0), p -> p.wayEnd(4, 4, 5, 0), p -> p.effect(-1),
        p -> p.effect(0), p -> p.effect(7), p -> p.effect(8), p -> p.effect(-2), LightPropagator::effectChunks,
        p -> p.lightIf(4, 4, 4, 1, 0), p -> p.lightIf(0, 7, 0, 0, 3), p -> p.spread(4, 4, 4, 0),
        p -> p.needed(4, 4, 4, 0, 14), p -> p.needed(4, 4, 4, 0, 0), p -> p.needed(4, 4, 4, 0, 15),
        p -> p.chunkSum(4, 0), p -> p.crossings(1, 4, 0), p -> p.dark(3), p -> p.skyHeight(0, 0),
        p -> p.ray(0, 7, 0, 1, 0), p -> p.brightest(0), p -> p.regions(1), LightPropagator::isConsistent,
        p -> p.histogram(0, 1), LightPropagator::checksum, LightPropagator::faultPosition,
        LightPropagator::batchSize, p -> p.append(0)};

    private static void dueTextAndFault(String what, LightPropagator p) {
        due(what + ": text", p.append(0), 8);
        due(what + ": fault position", p.faultPosition(), 4);
    }

    /** The losses and emissions that eventful leaves, but for one that may have changed. */
    private static void dueNumbers(String what, LightPropagator p, int otherLoss, int otherEmission) {
        for (int n = 0; n < 32; n++) {
            if (n != otherLoss) {
                due(what + ": loss " + n, p.loss(n / 4, n % 4), n / 4 == 1 ? 15 : n == 3 * 4 + BLUE ? 5 : 0);
            }
            if (n < 24 && n != otherEmission) {
                due(what + ": emission " + n, p.emission(n / 3, n % 3), n == 2 * 3 + RED ? 3 : 0);
            }
        }
    }

    private static void dueCopy(String what, LightPropagator p) {
        due(what + ": restore", p.restore(), 1);
        due(what + ": type of the copy", p.type(4, 4, 4), 2);
        due(what + ": type not in the copy", p.type(0, 7, 0), 0);
        due(what + ": loss of the copy", p.loss(3, BLUE), 0);
        due(what + ": loss of type 7 in the copy", p.loss(7, SUN), 0);
        due(what + ": emission of the copy", p.emission(2, RED), 3);
    }

    private static void dueEffect(String what, LightPropagator p) {
        due(what + ": effect", p.effect(-1), 8);
        due(what + ": first cell", p.effect(0), 0);
        due(what + ": last cell", p.effect(7), 84);
        due(what + ": chunks", p.effectChunks(), 1);
    }

    private static void questionsLeaveEverything() {
        LightPropagator other = new LightPropagator();
        eventful(other);
        long checksum = other.checksum();
        for (int i = 0; i < QUESTIONS.length; i++) {
            String what = "question " + i;
            LightPropagator p = new LightPropagator();
            eventful(p);
            QUESTIONS[i].on(p);
            dueTextAndFault(what, p);
            dueEffect(what, p);
            dueNumbers(what, p, -1, -1);
            due(what + ": batch", p.batchSize(), STATE);
            due(what + ": checksum", p.checksum(), checksum);
            due(what + ": undo", p.undo(), 3);
            due(what + ": undone", p.type(0, 7, 0), 0);
            dueCopy(what, p);
            due(what + ": read", p.read(), 1);
        }
    }

    private static void questionsLeaveTheOpenBatch() {
        for (int i = 0; i < QUESTIONS.length; i++) {
            String what = "question in a batch " + i;
            LightPropagator p = new LightPropagator();
            eventfulAndOpen(p);
            QUESTIONS[i].on(p);
            due(what + ": batch", p.batchSize(), 2);
            dueTextAndFault(what, p);
            dueEffect(what, p);
            // A lamp of 3 at y 1 lights 24 cells; the block at the top above it shades 8, of which 4 are lit, too.
            due(what + ": closed", p.closeBatch(), 24 + 8 - 4);
            due(what + ": undo", p.undo(), 4);
        }
    }

    private static void changesLeaveTextFaultAndCopy() {
        Call[] changes = {p -> p.set(9, 1, 9, 2), p -> p.set(0, 7, 0, 1), p -> p.fill(3, 3, 3, 2, 2, 1),
            p -> p.setLoss(5, GREEN, 9), p -> p.setEmission(2, BLUE, 7), p -> p.setLoss(3, BLUE, 5)};
        for (int i = 0; i < changes.length; i++) {
            String what = "change " + i;
            LightPropagator p = new LightPropagator();
            eventful(p);
            due(what, changes[i].on(p) >= 0 ? 1 : 0, 1);
            due(what + ": batch", p.batchSize(), STATE);
            dueTextAndFault(what, p);
            due(what + ": undo", p.undo(), 4);
            dueNumbers(what, p, -1, -1);
            dueCopy(what, p);
            due(what + ": read", p.read(), 1);
            due(what + ": the waiting command", p.type(1, 1, 1), 2);
        }
    }

    private static void changesLeaveOtherNumbers() {
        LightPropagator p = new LightPropagator();
        eventful(p);
        p.set(9, 1, 9, 7);
        dueNumbers("2: set", p, -1, -1);
        p.fill(3, 3, 3, 2, 2, 6);
        dueNumbers("6: fill", p, -1, -1);
        p.setLoss(5, GREEN, 9);
        dueNumbers("7: setLoss", p, 5 * 4 + GREEN, -1);
        due("7: setLoss", p.loss(5, GREEN), 9);
        p.setEmission(5, BLUE, 9);
        dueNumbers("8: setEmission", p, 5 * 4 + GREEN, 5 * 3 + BLUE);
    }

    private static void batchesLeaveTextFaultAndCopy() {
        LightPropagator p = new LightPropagator();
        eventful(p);
        p.openBatch();
        dueTextAndFault("3: openBatch", p);
        dueEffect("3: openBatch", p);
        p.set(9, 1, 9, 2);
        dueTextAndFault("2: a collected set", p);
        p.dropBatch();
        dueTextAndFault("5: dropBatch", p);
        dueEffect("5: dropBatch", p);
        dueNumbers("5: dropBatch", p, -1, -1);
        p.openBatch();
        p.set(9, 1, 9, 2);
        p.closeBatch();
        dueTextAndFault("4: closeBatch", p);
        dueNumbers("4: closeBatch", p, -1, -1);
        due("4: closeBatch", p.batchSize(), STATE);
        dueCopy("4: closeBatch", p);
        LightPropagator closed = new LightPropagator();
        closed.closeBatch();
        due("38: a closeBatch that is refused saves nothing", closed.restore(), NONE);
        eventful(closed);
        closed.closeBatch();
        dueTextAndFault("4: a refused closeBatch", closed);
        dueCopy("4: a refused closeBatch", closed);
    }

    private static void readLeavesTheCopy() {
        for (String more : new String[] {"", ";", ";s12,0,0=0"}) {
            LightPropagator p = new LightPropagator();
            eventful(p);
            due("10: read of more \"" + more + "\"", read(p, more), more.isEmpty() ? 1 : BAD_VALUE);
            due("10: batch", p.batchSize(), STATE);
            dueNumbers("10: read of more \"" + more + "\"", p, -1, -1);
            dueCopy("10: read of more \"" + more + "\"", p);
            p = new LightPropagator();
            read(p, "s0,0,0=1" + more);
            due("38: read saves nothing", p.restore(), NONE);
            p.append(0);
            p.faultPosition();
            p.undo();
            p.undo();
            due("38: neither do append, faultPosition and undo", p.restore(), NONE);
        }
    }

    private static void undoLeavesTheRest() {
        LightPropagator p = new LightPropagator();
        eventful(p);
        p.undo();
        dueTextAndFault("12: undo", p);
        dueNumbers("12: undo", p, -1, -1);
        due("12: undo", p.batchSize(), STATE);
        dueEffect("12: undo", p);
        for (int left = 2; left >= 0; left--) {
            due("12: undo", p.undo(), left);
        }
        due("12: undo", p.undo(), NONE);
        dueTextAndFault("12: undo that answers NONE", p);
        dueCopy("12: undo that answers NONE", p);
    }

    private static void saveLeavesTheRest() {
        LightPropagator p = new LightPropagator();
        eventful(p);
        due("37: save", p.save(), 2);
        dueTextAndFault("37: save", p);
        dueEffect("37: save", p);
        dueNumbers("37: save", p, -1, -1);
        due("37: save", p.batchSize(), STATE);
        due("37: undo", p.undo(), 3);
        due("38: the new copy", p.restore(), 2);
        dueNumbers("38: the new copy", p, -1, -1);
    }

    private static void restoreLeavesTextAndFault() {
        LightPropagator p = new LightPropagator();
        eventful(p);
        dueCopy("38: restore", p);
        dueTextAndFault("38: restore", p);
        due("38: restore", p.batchSize(), STATE);
        p.set(9, 1, 9, 2);
        dueCopy("38: restore again", p);
        dueTextAndFault("38: restore again", p);
    }

    private static void refusedRestoreLeavesTheRest() {
        LightPropagator p = new LightPropagator();
        p.set(0, 7, 0, 1);
        read(p, "s0,0=");
        write(p, "s1,1,1=2");
        due("38: nothing was saved", p.restore(), NONE);
        dueTextAndFault("38: a refused restore", p);
        dueEffect("38: a refused restore", p);
        due("38: a refused restore", p.undo(), 0);
    }
}
