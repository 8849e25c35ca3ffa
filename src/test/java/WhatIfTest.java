/** Promises 24 to 26: lightIf, spread, needed. */
final class WhatIfTest extends Checks {
    public static void main(String[] args) {
        lightIf();
        spread();
        needed();
        neededInOtherLight();
        wrong();
        end();
    }

    private static void lightIf() {
        LightPropagator p = new LightPropagator();
        p.setEmission(2, RED, 2);
        long before = p.checksum();
        due("24: as it is", p.lightIf(5, 3, 5, 0, SUN), 15 * 1152);
        due("24: a block", p.lightIf(5, 3, 5, 1, SUN), 15 * 1152 - 15 - 3);
        due("24: a lamp", p.lightIf(5, 3, 5, 2, RED), 8);
        due("24: a lamp in a corner", p.lightIf(0, 7, 11, 2, RED), 5);
        due("24: a lamp in another channel", p.lightIf(5, 3, 5, 2, BLUE), 0);
        due("24: nothing changes", p.checksum(), before);
        due("24: no change", p.undo(), 0);
        p.setEmission(2, RED, 2);
        p.set(5, 3, 5, 2);
        due("24: the same type", p.lightIf(5, 3, 5, 2, RED), 8);
        due("24: without the lamp", p.lightIf(5, 3, 5, 0, RED), 0);
        due("24: a wall", p.lightIf(5, 4, 5, 1, RED), 7);
        due("24: the effect stays", p.effect(-1), 7);
        due("24: the lamp stays", p.type(5, 3, 5), 2);
    }

    private static void spread() {
        LightPropagator p = night();
        p.setEmission(2, RED, 3);
        p.setEmission(2, BLUE, 1);
        p.set(5, 3, 5, 2);
        due("25: a lamp", p.spread(5, 3, 5, RED), 25);
        due("25: the cell itself counts", p.spread(5, 3, 5, BLUE), 1);
        due("25: no emission", p.spread(5, 3, 5, GREEN), 0);
        due("25: a cell without a lamp", p.spread(6, 3, 5, RED), 0);
        p.set(6, 3, 5, 2);
        due("25: in this cell alone", p.spread(5, 3, 5, BLUE), 1);
        // Of its 25 cells, those with x up to 5; the other lamp is nearer to the others.
        due("25: beside another lamp", p.spread(5, 3, 5, RED), 19);
        due("25: nothing changes", p.light(5, 3, 5, RED), 3);
        due("25: emission stays", p.emission(2, RED), 3);
        p.setEmission(3, RED, 15);
        p.set(7, 3, 5, 3);
        due("25: outshone", p.spread(5, 3, 5, RED), 0);
        p.set(0, 0, 0, 2);
        due("25: the first cell", p.spread(0, 0, 0, BLUE), 1);
        p.set(11, 7, 11, 2);
        due("25: the last cell", p.spread(11, 7, 11, BLUE), 1);
    }

    private static void needed() {
        LightPropagator p = night();
        for (int wanted = 1; wanted <= 14; wanted++) {
            due("26: wanted " + wanted, p.needed(5, 3, 5, RED, wanted), wanted + 1);
        }
        due("26: 15 above", p.needed(5, 3, 5, RED, 15), NONE);
        due("26: 0 is always enough", p.needed(5, 3, 5, RED, 0), 0);
        p.set(5, 4, 5, 1);
        due("26: through type 1", p.needed(5, 3, 5, RED, 1), NONE);
        due("26: the loss of the lower cell", p.needed(5, 4, 5, RED, 1), 2);
        p.setLoss(1, RED, 3);
        due("26: with a loss", p.needed(5, 3, 5, RED, 1), 5);
        due("26: the most", p.needed(5, 3, 5, RED, 11), 15);
        due("26: more", p.needed(5, 3, 5, RED, 12), NONE);
        due("26: nothing changes", p.light(5, 3, 5, RED), 0);
    }

    private static void neededInOtherLight() {
        LightPropagator p = night();
        p.setEmission(2, GREEN, 9);
        p.set(5, 3, 5, 2);
        due("26: in place of the type's", p.needed(5, 3, 5, GREEN, 8), 9);
        due("26: nothing else lights it", p.needed(5, 3, 5, GREEN, 1), 2);
        p.set(6, 3, 5, 2);
        due("26: others light it enough", p.needed(5, 3, 5, GREEN, 7), 0);
        due("26: others do not light it enough", p.needed(5, 3, 5, GREEN, 8), 9);
        p.set(5, 4, 5, 2);
        due("26: its own emission", p.needed(5, 3, 5, GREEN, 9), 0);
        due("26: more than its own", p.needed(5, 3, 5, GREEN, 10), 11);
        due("26: at the top but one", p.needed(0, 6, 0, BLUE, 1), 2);
    }

    private static void wrong() {
        LightPropagator p = new LightPropagator();
        for (int outside : OUTSIDE) {
            due("24: x", p.lightIf(outside, 0, 0, 0, 0), NO_SUCH_ELEMENT);
            due("24: y", p.lightIf(0, outside, 0, 0, 0), NO_SUCH_ELEMENT);
            due("24: z", p.lightIf(0, 0, outside, 0, 0), NO_SUCH_ELEMENT);
            due("24: type", p.lightIf(0, 0, 0, outside, 0), NO_SUCH_ELEMENT);
            due("24: channel", p.lightIf(0, 0, 0, 0, outside), NO_SUCH_ELEMENT);
            due("25: x", p.spread(outside, 0, 0, 0), NO_SUCH_ELEMENT);
            due("25: y", p.spread(0, outside, 0, 0), NO_SUCH_ELEMENT);
            due("25: z", p.spread(0, 0, outside, 0), NO_SUCH_ELEMENT);
            due("25: channel", p.spread(0, 0, 0, outside), NO_SUCH_ELEMENT);
            due("26: x", p.needed(outside, 0, 0, 0, 99), NO_SUCH_ELEMENT);
            due("26: y", p.needed(0, outside, 0, 0, 99), NO_SUCH_ELEMENT);
            due("26: z", p.needed(0, 0, outside, 0, 99), NO_SUCH_ELEMENT);
            due("26: channel", p.needed(0, 0, 0, outside, 99), NO_SUCH_ELEMENT);
            if (outside != 12) {
                due("26: wanted", p.needed(0, 0, 0, 0, outside), BAD_VALUE);
            }
        }
        due("24: y 8", p.lightIf(0, 8, 0, 0, 0), NO_SUCH_ELEMENT);
        due("24: type 8", p.lightIf(0, 0, 0, 8, 0), NO_SUCH_ELEMENT);
        due("24: channel 4", p.lightIf(0, 0, 0, 0, 4), NO_SUCH_ELEMENT);
        due("25: y 8", p.spread(0, 8, 0, 0), NO_SUCH_ELEMENT);
        due("25: sunlight", p.spread(0, 0, 0, SUN), NO_SUCH_ELEMENT);
        due("26: no neighbor above", p.needed(0, 7, 0, 0, 0), NO_SUCH_ELEMENT);
        due("26: no neighbor above, wanted out of range", p.needed(0, 7, 0, 0, 16), NO_SUCH_ELEMENT);
        due("26: sunlight", p.needed(0, 0, 0, SUN, 0), NO_SUCH_ELEMENT);
        due("26: wanted 16", p.needed(0, 0, 0, 0, 16), BAD_VALUE);
        due("26: wanted -1", p.needed(0, 0, 0, 0, -1), BAD_VALUE);
    }
}
