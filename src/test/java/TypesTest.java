/** Promises 7, 8, 14 and 15: setLoss, setEmission, loss, emission. */
final class TypesTest extends Checks {
    public static void main(String[] args) {
        setLoss();
        setEmission();
        lossOfTypes();
        emissionOfTypes();
        end();
    }

    private static void setLoss() {
        LightPropagator p = new LightPropagator();
        p.set(3, 0, 3, 2);
        due("7: on the ground", p.setLoss(2, SUN, 4), 1);
        due("7: the light is 15 - 1 - 4 beside the cell", p.light(3, 0, 3, SUN), 10);
        due("7: the same again", p.setLoss(2, SUN, 4), 0);
        due("7: the effect of the same", p.effect(-1), 0);
        due("7: another channel", p.setLoss(2, RED, 15), 0);
        due("7: all types but one", p.setLoss(0, SUN, 15), 1152);
        due("7: its lights", p.histogram(SUN, 0), 1152);
        long before = p.checksum();
        for (int outside : OUTSIDE) {
            due("7: type " + outside, p.setLoss(outside, 0, 99), NO_SUCH_ELEMENT);
            due("7: channel " + outside, p.setLoss(0, outside, 99), NO_SUCH_ELEMENT);
            if (outside != 12) {
                due("7: loss " + outside, p.setLoss(0, 0, outside), BAD_VALUE);
            }
        }
        due("7: type 8", p.setLoss(8, 0, 0), NO_SUCH_ELEMENT);
        due("7: channel 4", p.setLoss(0, 4, 0), NO_SUCH_ELEMENT);
        due("7: loss 16", p.setLoss(0, 0, 16), BAD_VALUE);
        due("7: unchanged", p.checksum(), before);
        due("7: loss is unchanged", p.loss(0, 0), 0);
        due("7: the effect stays", p.effect(-1), 1152);
        p.openBatch();
        due("7: STATE first", p.setLoss(-1, -1, -1), STATE);
        p.dropBatch();
        due("7: changes", p.undo(), 4);
        due("7: undone", p.loss(0, SUN), 0);
    }

    private static void setEmission() {
        LightPropagator p = new LightPropagator();
        p.set(3, 0, 3, 2);
        due("8: one cell", p.setEmission(2, GREEN, 1), 1);
        due("8: a cell and its five neighbors", p.setEmission(2, GREEN, 2), 6);
        due("8: light", p.light(3, 1, 3, GREEN), 1);
        due("8: other channels", p.light(3, 0, 3, RED) + p.light(3, 0, 3, BLUE), 0);
        due("8: the same again", p.setEmission(2, GREEN, 2), 0);
        due("8: a type without cells", p.setEmission(5, RED, 15), 0);
        due("8: one cell more in another channel", p.setEmission(2, BLUE, 1), 1);
        long before = p.checksum();
        for (int outside : OUTSIDE) {
            due("8: type " + outside, p.setEmission(outside, 0, 99), NO_SUCH_ELEMENT);
            due("8: channel " + outside, p.setEmission(0, outside, 99), NO_SUCH_ELEMENT);
            if (outside != 12) {
                due("8: emission " + outside, p.setEmission(0, 0, outside), BAD_VALUE);
            }
        }
        due("8: type 8", p.setEmission(8, 0, 0), NO_SUCH_ELEMENT);
        due("8: no emission of sunlight", p.setEmission(0, SUN, 0), NO_SUCH_ELEMENT);
        due("8: emission 16", p.setEmission(0, 0, 16), BAD_VALUE);
        due("8: unchanged", p.checksum(), before);
        due("8: the effect stays", p.effect(-1), 1);
        p.openBatch();
        due("8: STATE first", p.setEmission(-1, -1, -1), STATE);
        p.dropBatch();
        due("8: changes", p.undo(), 5);
        due("8: undone", p.emission(2, BLUE), 0);
        due("8: everything lit", p.setEmission(0, RED, 15), 1152);
    }

    private static void lossOfTypes() {
        LightPropagator p = new LightPropagator();
        int value = 0;
        for (int type = 0; type < 8; type++) {
            for (int channel = 0; channel < 4; channel++) {
                p.setLoss(type, channel, value++ % 16);
            }
        }
        value = 0;
        for (int type = 0; type < 8; type++) {
            for (int channel = 0; channel < 4; channel++) {
                due("14: loss " + type + " " + channel, p.loss(type, channel), value++ % 16);
            }
        }
        for (int outside : OUTSIDE) {
            due("14: type " + outside, p.loss(outside, 0), NO_SUCH_ELEMENT);
            due("14: channel " + outside, p.loss(0, outside), NO_SUCH_ELEMENT);
        }
        due("14: type 8", p.loss(8, 0), NO_SUCH_ELEMENT);
        due("14: channel 4", p.loss(0, 4), NO_SUCH_ELEMENT);
    }

    private static void emissionOfTypes() {
        LightPropagator p = new LightPropagator();
        int value = 1;
        for (int type = 0; type < 8; type++) {
            for (int channel = 0; channel < 3; channel++) {
                p.setEmission(type, channel, value++ % 16);
            }
        }
        value = 1;
        for (int type = 0; type < 8; type++) {
            for (int channel = 0; channel < 3; channel++) {
                due("15: emission " + type + " " + channel, p.emission(type, channel), value++ % 16);
            }
        }
        for (int outside : OUTSIDE) {
            due("15: type " + outside, p.emission(outside, 0), NO_SUCH_ELEMENT);
            due("15: channel " + outside, p.emission(0, outside), NO_SUCH_ELEMENT);
        }
        due("15: type 8", p.emission(8, 0), NO_SUCH_ELEMENT);
        due("15: channel 3", p.emission(0, SUN), NO_SUCH_ELEMENT);
    }
}
