/**
 * Error codes: "If several error codes are possible, the one that is mentioned first is returned, unless the order is
 * described. A call that returns an error code leaves everything unchanged, unless its description says otherwise."
 * Each refused call of each promise, with the codes in their order; a twin without the call tells what is unchanged.
 */
final class RefusedCallTest extends Boundaries {
    public static void main(String[] args) {
        set();
        setInBatch();
        openBatch();
        closeAndDropBatch();
        fillWhileOpen();
        fillOfNoCell();
        fillOfNoBox();
        setLossWhileOpen();
        setLoss();
        setEmissionWhileOpen();
        setEmission();
        append();
        readWhileOpen();
        readOfFaultAndRefusal();
        undo();
        saveAndRestore();
        questionsOfOneCell();
        origins();
        effects();
        whatWouldBe();
        chunksAndStatistics();
        answersChangeNothing();
        end();
    }

    /** The call is refused in each state without an open batch. */
    private static void dueClosed(String what, int code, Call call) {
        dueRefused(what, Boundaries::newOne, code, call);
        dueRefused(what, Boundaries::eventful, code, call);
        dueRefused(what, Boundaries::sevenChanges, code, call);
    }

    /** The call is refused in each state with an open batch: empty, with two edits, with 40. */
    private static void dueOpen(String what, int code, Call call) {
        dueRefused(what, LightPropagator::openBatch, code, call);
        dueRefused(what, Boundaries::eventfulAndOpen, code, call);
        dueRefused(what, Boundaries::eventfulAndFullBatch, code, call);
    }

    private static void dueAlways(String what, int code, Call call) {
        dueClosed(what, code, call);
        dueOpen(what, code, call);
    }

    /** "NO_SUCH_ELEMENT if there is no such cell or type (checked first)" */
    private static void set() {
        dueAlways("2: no such cell", NO_SUCH_ELEMENT, p -> p.set(12, 0, 0, 1));
        dueAlways("2: no such type", NO_SUCH_ELEMENT, p -> p.set(0, 0, 0, 8));
        dueAlways("2: neither", NO_SUCH_ELEMENT, p -> p.set(LEAST, GREATEST, LEAST, GREATEST));
    }

    /** "FULL if the batch has 40 edits and none for this cell" */
    private static void setInBatch() {
        Setup full = Boundaries::eventfulAndFullBatch;
        dueRefused("2: FULL", full, FULL, p -> p.set(11, 7, 11, 7));
        dueRefused("2: no such cell before FULL", full, NO_SUCH_ELEMENT, p -> p.set(0, 8, 0, 1));
        dueRefused("2: no such type before FULL", full, NO_SUCH_ELEMENT, p -> p.set(11, 7, 11, 8));
        dueRefused("2: no such type for one of the 40", full, NO_SUCH_ELEMENT, p -> p.set(0, 0, 0, -1));
    }

    private static void openBatch() {
        dueOpen("3: open", STATE, LightPropagator::openBatch);
    }

    private static void closeAndDropBatch() {
        dueClosed("4: none is open", STATE, LightPropagator::closeBatch);
        dueClosed("5: none is open", STATE, LightPropagator::dropBatch);
        dueClosed("21: none is open", STATE, LightPropagator::batchSize);
    }

    /** "STATE if a batch is open (checked first)" */
    private static void fillWhileOpen() {
        dueOpen("6: all is right", STATE, p -> p.fill(0, 0, 0, 1, 1, 1));
        dueOpen("6: no such cell", STATE, p -> p.fill(0, 8, 0, 1, 1, 1));
        dueOpen("6: no such type", STATE, p -> p.fill(0, 0, 0, 1, 1, 8));
        dueOpen("6: no such width", STATE, p -> p.fill(0, 0, 0, 0, 1, 1));
        dueOpen("6: nothing is right", STATE, p -> p.fill(LEAST, LEAST, LEAST, LEAST, LEAST, LEAST));
    }

    /** "NO_SUCH_ELEMENT if there is no such cell or type (checked second)" */
    private static void fillOfNoCell() {
        dueClosed("6: no such x", NO_SUCH_ELEMENT, p -> p.fill(12, 0, 0, 1, 1, 1));
        dueClosed("6: no such y", NO_SUCH_ELEMENT, p -> p.fill(0, -1, 0, 2, 2, 1));
        dueClosed("6: no such z", NO_SUCH_ELEMENT, p -> p.fill(0, 0, -1, 12, 8, 1));
        dueClosed("6: no such type", NO_SUCH_ELEMENT, p -> p.fill(0, 0, 0, 12, 8, 8));
        dueClosed("6: no such cell, and no width", NO_SUCH_ELEMENT, p -> p.fill(0, 8, 0, 0, 1, 1));
        dueClosed("6: no such cell, and no height", NO_SUCH_ELEMENT, p -> p.fill(-1, 0, 0, 1, 0, 1));
        dueClosed("6: no such type, and no width", NO_SUCH_ELEMENT, p -> p.fill(0, 0, 0, 13, 1, -1));
        dueClosed("6: no such type, and no height", NO_SUCH_ELEMENT, p -> p.fill(0, 0, 0, 1, 9, 8));
        dueClosed("6: nothing is right", NO_SUCH_ELEMENT,
                p -> p.fill(GREATEST, GREATEST, GREATEST, GREATEST, GREATEST, GREATEST));
    }

    /** "BAD_VALUE if the width or height is less than 1 or a cell does not exist" */
    private static void fillOfNoBox() {
        int[][] boxes = {{0, 0, 0, 0, 1}, {0, 0, 0, 1, 0}, {0, 0, 0, 13, 1}, {0, 0, 0, 1, 9}, {1, 0, 0, 12, 1},
            {0, 1, 0, 1, 8}, {0, 0, 1, 12, 1}, {11, 0, 0, 2, 1}, {0, 7, 0, 1, 2}, {0, 0, 11, 2, 1}, {5, 0, 0, LEAST, 1},
            {5, 0, 0, GREATEST, 1}, {0, 5, 0, 1, LEAST}, {0, 5, 0, 1, GREATEST}, {11, 7, 11, GREATEST, GREATEST},
            {11, 7, 11, -1, -1}, {5, 5, 5, GREATEST - 4, 1}, {5, 5, 5, 1, GREATEST - 4}};
        for (int[] b : boxes) {
            dueClosed("6: box " + b[0] + " " + b[1] + " " + b[2] + " " + b[3] + " " + b[4], BAD_VALUE,
                    p -> p.fill(b[0], b[1], b[2], b[3], b[4], 1));
        }
    }

    private static void setLossWhileOpen() {
        dueOpen("7: all is right", STATE, p -> p.setLoss(0, 0, 1));
        dueOpen("7: no such type", STATE, p -> p.setLoss(8, 0, 1));
        dueOpen("7: no such channel", STATE, p -> p.setLoss(0, 4, 1));
        dueOpen("7: no such loss", STATE, p -> p.setLoss(0, 0, 16));
        dueOpen("7: nothing is right", STATE, p -> p.setLoss(-1, -1, -1));
    }

    /** "NO_SUCH_ELEMENT if there is no such type or channel (checked second); BAD_VALUE." */
    private static void setLoss() {
        dueClosed("7: no such type", NO_SUCH_ELEMENT, p -> p.setLoss(8, 3, 15));
        dueClosed("7: no such channel", NO_SUCH_ELEMENT, p -> p.setLoss(7, 4, 15));
        dueClosed("7: no such type and loss", NO_SUCH_ELEMENT, p -> p.setLoss(-1, 0, 16));
        dueClosed("7: no such channel and loss", NO_SUCH_ELEMENT, p -> p.setLoss(0, -1, -1));
        dueClosed("7: nothing is right", NO_SUCH_ELEMENT, p -> p.setLoss(LEAST, GREATEST, LEAST));
        dueClosed("7: loss 16", BAD_VALUE, p -> p.setLoss(7, 3, 16));
        dueClosed("7: loss -1", BAD_VALUE, p -> p.setLoss(0, 0, -1));
        dueClosed("7: least loss", BAD_VALUE, p -> p.setLoss(0, 0, LEAST));
        dueClosed("7: greatest loss", BAD_VALUE, p -> p.setLoss(0, 0, GREATEST));
    }

    private static void setEmissionWhileOpen() {
        dueOpen("8: all is right", STATE, p -> p.setEmission(0, 0, 1));
        dueOpen("8: no such type", STATE, p -> p.setEmission(8, 0, 1));
        dueOpen("8: no such channel", STATE, p -> p.setEmission(0, 3, 1));
        dueOpen("8: no such emission", STATE, p -> p.setEmission(0, 0, 16));
        dueOpen("8: nothing is right", STATE, p -> p.setEmission(-1, -1, -1));
    }

    private static void setEmission() {
        dueClosed("8: no such type", NO_SUCH_ELEMENT, p -> p.setEmission(8, 2, 15));
        dueClosed("8: sunlight", NO_SUCH_ELEMENT, p -> p.setEmission(7, 3, 15));
        dueClosed("8: sunlight of 0", NO_SUCH_ELEMENT, p -> p.setEmission(7, 3, 0));
        dueClosed("8: no such type and emission", NO_SUCH_ELEMENT, p -> p.setEmission(-1, 0, 16));
        dueClosed("8: no such channel and emission", NO_SUCH_ELEMENT, p -> p.setEmission(0, -1, -1));
        dueClosed("8: nothing is right", NO_SUCH_ELEMENT, p -> p.setEmission(LEAST, GREATEST, LEAST));
        dueClosed("8: emission 16", BAD_VALUE, p -> p.setEmission(7, 2, 16));
        dueClosed("8: emission -1", BAD_VALUE, p -> p.setEmission(0, 0, -1));
        dueClosed("8: least emission", BAD_VALUE, p -> p.setEmission(0, 0, LEAST));
        dueClosed("8: greatest emission", BAD_VALUE, p -> p.setEmission(0, 0, GREATEST));
    }

    /** The orders of append with a full text are in TextBoundaryTest. */
    private static void append() {
        dueAlways("9: a blank", BAD_VALUE, p -> p.append(32));
        dueAlways("9: 127", BAD_VALUE, p -> p.append(127));
        dueAlways("9: the least int", BAD_VALUE, p -> p.append(LEAST));
        dueAlways("9: the greatest int", BAD_VALUE, p -> p.append(GREATEST));
        dueAlways("9: a blank behind good ones", BAD_VALUE, p -> p.append(0x73302c20));
    }

    private static void readWhileOpen() {
        dueOpen("10: open", STATE, LightPropagator::read);
    }

    /** "BAD_VALUE if the text has a fault or a command is refused": only the text and the fault position change. */
    private static void readOfFaultAndRefusal() {
        String[][] texts = {{"", "x"}, {"x", "x"}, {"s0,0,0=8", "x"}, {"f0,0,0,11,7,11=1;", "l0,0,0;l0,0,0;l00x"},
            {"s0,0,0=1;l0,0,16", "l0,0,0;l0x"}, {"s0,0,0=1;e0,0,", "l0,0,0;l0,0,0;x"}};
        for (String[] each : texts) {
            LightPropagator p = new LightPropagator();
            eventful(p);
            p.read();
            due("10: \"" + each[0] + "\"", read(p, each[0]), BAD_VALUE);
            // The twin reads another text that has its fault at the same place and would change nothing anyway.
            dueLike("10: \"" + each[0] + "\"", p, twin -> {
                eventful(twin);
                twin.read();
                read(twin, each[1]);
            });
        }
    }

    /** "STATE if a batch is open (checked first); NONE if there is none." */
    private static void undo() {
        dueOpen("12: open", STATE, LightPropagator::undo);
        dueRefused("12: none", Boundaries::newOne, NONE, LightPropagator::undo);
        dueRefused("12: none after save", p -> {
            eventful(p);
            p.restore();
        }, NONE, LightPropagator::undo);
        dueRefused("12: none is left", p -> {
            p.set(0, 7, 0, 1);
            p.undo();
        }, NONE, LightPropagator::undo);
    }

    /** "STATE if a batch is open (checked first); NONE if nothing was saved." */
    private static void saveAndRestore() {
        dueOpen("37: open", STATE, LightPropagator::save);
        dueOpen("38: open", STATE, LightPropagator::restore);
        dueRefused("38: nothing was saved", Boundaries::newOne, NONE, LightPropagator::restore);
        dueRefused("38: nothing was saved", Boundaries::sevenChanges, NONE, LightPropagator::restore);
    }

    private static void questionsOfOneCell() {
        dueAlways("13: no such cell", NO_SUCH_ELEMENT, p -> p.type(0, 8, 0));
        dueAlways("14: no such type", NO_SUCH_ELEMENT, p -> p.loss(8, 0));
        dueAlways("14: no such channel", NO_SUCH_ELEMENT, p -> p.loss(0, 4));
        dueAlways("15: no such type", NO_SUCH_ELEMENT, p -> p.emission(8, 0));
        dueAlways("15: no such channel", NO_SUCH_ELEMENT, p -> p.emission(0, 3));
        dueAlways("16: no such cell", NO_SUCH_ELEMENT, p -> p.light(0, 8, 0, 0));
        dueAlways("16: no such channel", NO_SUCH_ELEMENT, p -> p.light(0, 0, 0, 4));
        dueAlways("17: no such cell", NO_SUCH_ELEMENT, p -> p.lights(0, 0, 12));
        dueAlways("31: no such cell", NO_SUCH_ELEMENT, p -> p.ray(12, 0, 0, 0, 0));
        dueAlways("31: no such direction", NO_SUCH_ELEMENT, p -> p.ray(0, 0, 0, 6, 0));
        dueAlways("31: no such channel", NO_SUCH_ELEMENT, p -> p.ray(0, 0, 0, 0, 4));
        dueAlways("30: no such column", NO_SUCH_ELEMENT, p -> p.skyHeight(0, 12));
    }

    /** "NO_SUCH_ELEMENT (checked first); NONE if the light is 0." */
    private static void origins() {
        dueAlways("18: no such cell", NO_SUCH_ELEMENT, p -> p.origin(0, 8, 0, BLUE));
        dueAlways("18: no such channel", NO_SUCH_ELEMENT, p -> p.origin(0, 0, 0, 4));
        dueAlways("18: no light", NONE, p -> p.origin(0, 0, 0, BLUE));
        dueAlways("19: no such cell", NO_SUCH_ELEMENT, p -> p.wayLength(0, 8, 0, BLUE));
        dueAlways("19: no such channel", NO_SUCH_ELEMENT, p -> p.wayLength(0, 0, 0, 4));
        dueAlways("19: no light", NONE, p -> p.wayLength(0, 0, 0, BLUE));
        dueAlways("20: no such cell", NO_SUCH_ELEMENT, p -> p.wayEnd(0, 8, 0, BLUE));
        dueAlways("20: no such channel", NO_SUCH_ELEMENT, p -> p.wayEnd(0, 0, 0, 4));
        dueAlways("20: no light", NONE, p -> p.wayEnd(0, 0, 0, BLUE));
    }

    /** "BAD_VALUE if index is less than -1 (checked first); NONE if there is no such cell." */
    private static void effects() {
        dueAlways("22: -2", BAD_VALUE, p -> p.effect(-2));
        dueAlways("22: the least int", BAD_VALUE, p -> p.effect(LEAST));
        dueAlways("22: too great", NONE, p -> p.effect(1152));
        dueAlways("22: the greatest int", NONE, p -> p.effect(GREATEST));
        dueAlways("22: the size", NONE, p -> p.effect(p.effect(-1)));
    }

    private static void whatWouldBe() {
        dueAlways("24: no such cell", NO_SUCH_ELEMENT, p -> p.lightIf(0, 8, 0, 1, 0));
        dueAlways("24: no such type", NO_SUCH_ELEMENT, p -> p.lightIf(0, 0, 0, 8, 0));
        dueAlways("24: no such channel", NO_SUCH_ELEMENT, p -> p.lightIf(0, 0, 0, 1, 4));
        dueAlways("25: no such cell", NO_SUCH_ELEMENT, p -> p.spread(0, 8, 0, 0));
        dueAlways("25: no such channel", NO_SUCH_ELEMENT, p -> p.spread(0, 0, 0, 3));
        dueAlways("26: no such cell", NO_SUCH_ELEMENT, p -> p.needed(0, 8, 0, 0, 1));
        dueAlways("26: no such channel", NO_SUCH_ELEMENT, p -> p.needed(0, 0, 0, 3, 1));
        dueAlways("26: no neighbor above", NO_SUCH_ELEMENT, p -> p.needed(0, 7, 0, 0, 0));
        dueAlways("26: no such cell and wanted", NO_SUCH_ELEMENT, p -> p.needed(0, -1, 0, 0, -1));
        dueAlways("26: no such channel and wanted", NO_SUCH_ELEMENT, p -> p.needed(0, 0, 0, 3, 16));
        dueAlways("26: no neighbor above and wanted", NO_SUCH_ELEMENT, p -> p.needed(0, 7, 0, 0, 16));
        dueAlways("26: wanted -1", BAD_VALUE, p -> p.needed(0, 6, 0, 0, -1));
        dueAlways("26: wanted 16", BAD_VALUE, p -> p.needed(0, 0, 0, 2, 16));
        dueAlways("26: 15 does not suffice", NONE, p -> p.needed(0, 0, 0, 2, 15));
    }

    private static void chunksAndStatistics() {
        dueAlways("27: no such chunk", NO_SUCH_ELEMENT, p -> p.chunkSum(9, 0));
        dueAlways("27: no such channel", NO_SUCH_ELEMENT, p -> p.chunkSum(0, 4));
        dueAlways("28: no such chunk", NO_SUCH_ELEMENT, p -> p.crossings(9, 0, 0));
        dueAlways("28: no such other", NO_SUCH_ELEMENT, p -> p.crossings(0, -1, 0));
        dueAlways("28: no such channel, and the same", NO_SUCH_ELEMENT, p -> p.crossings(0, 0, 4));
        dueAlways("28: no such chunk, and the same", NO_SUCH_ELEMENT, p -> p.crossings(9, 9, 0));
        dueAlways("28: the same", BAD_VALUE, p -> p.crossings(0, 0, 3));
        dueAlways("29: level 16", BAD_VALUE, p -> p.dark(16));
        dueAlways("32: no such channel", NO_SUCH_ELEMENT, p -> p.brightest(4));
        dueAlways("32: all are 0", NONE, p -> p.brightest(BLUE));
        dueAlways("33: level 0", BAD_VALUE, p -> p.regions(0));
        dueAlways("35: no such channel", NO_SUCH_ELEMENT, p -> p.histogram(4, 0));
        dueAlways("35: no such channel and light", NO_SUCH_ELEMENT, p -> p.histogram(4, 16));
        dueAlways("35: light 16", BAD_VALUE, p -> p.histogram(3, 16));
        dueAlways("35: light -1", BAD_VALUE, p -> p.histogram(0, -1));
    }

    /** Questions that are answered change nothing, either: "Nothing changes by it." */
    private static void answersChangeNothing() {
        Call[] questions = {p -> p.type(0, 0, 0), p -> p.loss(1, 1), p -> p.emission(2, 0), p -> p.light(0, 0, 0, 3),
            p -> p.lights(4, 4, 4), p -> p.origin(4, 4, 4, 0), p -> p.wayLength(4, 4, 5, 0), p -> p.wayEnd(4, 4, 5, 0),
            p -> p.effect(-1), p -> p.effect(0), LightPropagator::effectChunks, p -> p.lightIf(4, 4, 4, 1, 0),
            p -> p.lightIf(0, 7, 0, 0, 3), p -> p.spread(4, 4, 4, 0), p -> p.needed(4, 4, 4, 0, 14),
            p -> p.chunkSum(4, 0), p -> p.crossings(1, 4, 0), p -> p.dark(3), p -> p.skyHeight(0, 0),
            p -> p.ray(0, 7, 0, 1, 0), p -> p.brightest(0), p -> p.regions(1), LightPropagator::isConsistent,
            p -> p.histogram(0, 1), LightPropagator::checksum, LightPropagator::faultPosition, p -> p.append(0)};
        Setup[] setups = {Boundaries::newOne, Boundaries::eventful, Boundaries::eventfulAndOpen};
        for (int i = 0; i < questions.length; i++) {
            for (Setup setup : setups) {
                LightPropagator p = new LightPropagator();
                setup.on(p);
                questions[i].on(p);
                dueLike("question " + i, p, setup);
            }
        }
    }
}
