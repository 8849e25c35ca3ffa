/** Promises 16 to 20: light, lights, origin, wayLength, wayEnd. */
final class LightTest extends Checks {
    public static void main(String[] args) {
        lampInTheDark();
        losses();
        sunlight();
        packed();
        originsOfColors();
        originsOfSunlight();
        ways();
        noSuchElements();
        end();
    }

    private static void lampInTheDark() {
        for (int z = 0; z < 12; z++) {
            LightPropagator p = lampInTheCorner();
            for (int y = 0; y < 8; y++) {
                for (int x = 0; x < 12; x++) {
                    due("16: light", p.light(x, y, z, GREEN), Math.max(0, 15 - x - y - z));
                    due("16: another channel", p.light(x, y, z, RED), 0);
                }
            }
        }
        LightPropagator p = lampInTheCorner();
        p.set(1, 0, 0, 1);
        p.set(0, 1, 0, 1);
        p.set(0, 0, 1, 1);
        due("16: shut in", p.histogram(GREEN, 0), 1151);
    }

    private static LightPropagator lampInTheCorner() {
        LightPropagator p = night();
        p.setEmission(2, GREEN, 15);
        p.set(0, 0, 0, 2);
        return p;
    }

    private static void losses() {
        LightPropagator p = night();
        // A tube along x, shut with type 1 on all sides.
        p.fill(0, 0, 0, 12, 2, 1);
        p.setEmission(2, RED, 15);
        p.setLoss(2, RED, 15);
        p.setLoss(3, RED, 3);
        p.set(0, 0, 0, 2);
        p.set(1, 0, 0, 0);
        p.set(2, 0, 0, 3);
        p.set(3, 0, 0, 0);
        due("16: an emission is not lessened by the loss", p.light(0, 0, 0, RED), 15);
        due("16: without loss", p.light(1, 0, 0, RED), 14);
        due("16: with its own loss", p.light(2, 0, 0, RED), 10);
        due("16: behind it", p.light(3, 0, 0, RED), 9);
        due("16: in type 1", p.light(4, 0, 0, RED), 0);
        p.set(3, 0, 0, 2);
        due("16: the greater of two neighbors", p.light(2, 0, 0, RED), 11);
        p.setEmission(3, RED, 12);
        due("16: its own emission is greater", p.light(2, 0, 0, RED), 12);
    }

    private static void sunlight() {
        LightPropagator p = new LightPropagator();
        p.setLoss(2, SUN, 4);
        p.fill(0, 7, 0, 12, 1, 2);
        due("16: at y 7", p.light(6, 7, 6, SUN), 11);
        due("16: below it is less", p.light(6, 6, 6, SUN), 10);
        due("16: at y 0", p.light(6, 0, 6, SUN), 4);
        p.set(6, 7, 6, 0);
        due("16: a hole", p.light(6, 7, 6, SUN), 15);
        due("16: 15 goes down", p.light(6, 0, 6, SUN), 15);
        due("16: and to the sides", p.light(7, 0, 6, SUN), 14);
        p.set(6, 3, 6, 2);
        due("16: 15 - 1 - 4", p.light(6, 3, 6, SUN), 10);
        due("16: 15 goes no further down", p.light(6, 2, 6, SUN), 11);
        p.fill(0, 7, 0, 12, 1, 1);
        due("16: shut", p.histogram(SUN, 0), 1152);
    }

    private static void packed() {
        LightPropagator p = new LightPropagator();
        p.setEmission(2, RED, 1);
        p.setEmission(2, GREEN, 5);
        p.setEmission(2, BLUE, 12);
        p.set(3, 4, 5, 2);
        due("17: all channels", p.lights(3, 4, 5), 1 + 16 * 5 + 256 * 12 + 4096 * 15);
        due("17: a neighbor", p.lights(3, 4, 6), 16 * 4 + 256 * 11 + 4096 * 15);
        p.setLoss(2, SUN, 1);
        due("17: less sunlight", p.lights(3, 4, 5), 1 + 16 * 5 + 256 * 12 + 4096 * 13);
    }

    private static void originsOfColors() {
        LightPropagator p = night();
        p.setEmission(2, BLUE, 5);
        p.set(5, 3, 5, 2);
        due("18: of the type", p.origin(5, 3, 5, BLUE), 6);
        due("18: x - 1", p.origin(6, 3, 5, BLUE), 0);
        due("18: x + 1", p.origin(4, 3, 5, BLUE), 1);
        due("18: y - 1", p.origin(5, 4, 5, BLUE), 2);
        due("18: y + 1", p.origin(5, 2, 5, BLUE), 3);
        due("18: z - 1", p.origin(5, 3, 6, BLUE), 4);
        due("18: z + 1", p.origin(5, 3, 4, BLUE), 5);
        due("18: the least direction", p.origin(4, 4, 6, BLUE), 1);
        due("18: the least of two", p.origin(5, 2, 6, BLUE), 3);
        due("18: no light", p.origin(5, 3, 5, RED), NONE);
        due("18: out of reach", p.origin(10, 3, 5, BLUE), NONE);
        p.setEmission(3, BLUE, 4);
        p.set(6, 3, 5, 3);
        due("18: the emission comes first", p.origin(6, 3, 5, BLUE), 6);
        p.setEmission(3, BLUE, 3);
        due("18: an emission that is too small", p.origin(6, 3, 5, BLUE), 0);
        p.setLoss(3, BLUE, 1);
        due("18: loss and emission", p.origin(6, 3, 5, BLUE), 6);
        p.setEmission(3, BLUE, 2);
        due("18: a neighbor with a loss", p.origin(6, 3, 5, BLUE), 0);
    }

    private static void originsOfSunlight() {
        LightPropagator p = new LightPropagator();
        due("18: the sky", p.origin(0, 7, 0, SUN), 7);
        due("18: the cell above", p.origin(0, 6, 0, SUN), 8);
        due("18: on the ground", p.origin(11, 0, 11, SUN), 8);
        p.setLoss(2, SUN, 1);
        p.set(4, 7, 4, 2);
        due("18: the sky with a loss", p.origin(4, 7, 4, SUN), 7);
        due("18: beside", p.origin(4, 6, 4, SUN), 0);
        p.set(4, 6, 4, 2);
        due("18: beside with a loss", p.origin(4, 6, 4, SUN), 0);
        due("18: its light", p.light(4, 6, 4, SUN), 13);
        p.set(3, 7, 4, 1);
        due("18: none", p.origin(3, 7, 4, SUN), NONE);
        p.fill(0, 7, 0, 12, 1, 1);
        p.set(6, 7, 6, 0);
        due("18: a hole", p.origin(6, 7, 6, SUN), 7);
        due("18: from the hole", p.origin(7, 6, 6, SUN), 0);
        due("18: above is another kind of origin", p.origin(6, 6, 6, SUN), 8);
        p.set(6, 7, 6, 2);
        due("18: down with less than 15", p.origin(6, 6, 6, SUN), 3);
        p.setLoss(3, SUN, 15);
        p.fill(0, 7, 0, 12, 1, 3);
        p.setLoss(3, SUN, 14);
        due("18: the least sky", p.origin(6, 7, 6, SUN), 7);
    }

    private static void ways() {
        LightPropagator p = night();
        p.setEmission(2, RED, 10);
        p.set(5, 3, 5, 2);
        due("19: in the lamp", p.wayLength(5, 3, 5, RED), 0);
        due("20: in the lamp", p.wayEnd(5, 3, 5, RED), number(5, 3, 5));
        due("19: three steps", p.wayLength(6, 4, 6, RED), 3);
        due("20: three steps", p.wayEnd(6, 4, 6, RED), number(5, 3, 5));
        due("19: nine steps", p.wayLength(0, 0, 6, RED), 9);
        due("20: nine steps", p.wayEnd(0, 0, 6, RED), number(5, 3, 5));
        due("19: no light", p.wayLength(0, 0, 7, RED), NONE);
        due("20: no light", p.wayEnd(0, 0, 7, RED), NONE);
        p.set(11, 3, 5, 2);
        due("20: the least direction leads to the first lamp", p.wayEnd(8, 3, 5, RED), number(5, 3, 5));
        due("20: the nearer lamp", p.wayEnd(9, 3, 5, RED), number(11, 3, 5));
        due("19: the nearer lamp", p.wayLength(9, 3, 5, RED), 2);
        p = new LightPropagator();
        due("19: in the sky", p.wayLength(2, 7, 2, SUN), 0);
        due("19: to the sky", p.wayLength(2, 0, 2, SUN), 7);
        due("20: to the sky", p.wayEnd(2, 0, 2, SUN), number(2, 7, 2));
        p.fill(0, 5, 0, 12, 1, 1);
        p.set(4, 5, 4, 0);
        due("19: aside and up", p.wayLength(5, 0, 4, SUN), 8);
        due("20: aside and up", p.wayEnd(5, 0, 4, SUN), number(4, 7, 4));
        due("19: the longest", p.wayLength(11, 0, 11, SUN), 21);
        due("20: the longest", p.wayEnd(11, 0, 11, SUN), number(4, 7, 4));
    }

    private static void noSuchElements() {
        LightPropagator p = new LightPropagator();
        for (int outside : OUTSIDE) {
            int[][] wrong = {{outside, 0, 0, 0}, {0, outside, 0, 0}, {0, 0, outside, 0}, {0, 0, 0, outside}};
            for (int[] w : wrong) {
                due("16: no such", p.light(w[0], w[1], w[2], w[3]), NO_SUCH_ELEMENT);
                due("18: no such", p.origin(w[0], w[1], w[2], w[3]), NO_SUCH_ELEMENT);
                due("19: no such", p.wayLength(w[0], w[1], w[2], w[3]), NO_SUCH_ELEMENT);
                due("20: no such", p.wayEnd(w[0], w[1], w[2], w[3]), NO_SUCH_ELEMENT);
            }
            due("17: x " + outside, p.lights(outside, 0, 0), NO_SUCH_ELEMENT);
            due("17: y " + outside, p.lights(0, outside, 0), NO_SUCH_ELEMENT);
            due("17: z " + outside, p.lights(0, 0, outside), NO_SUCH_ELEMENT);
        }
        due("16: y 8", p.light(0, 8, 0, 0), NO_SUCH_ELEMENT);
        due("16: channel 4", p.light(0, 0, 0, 4), NO_SUCH_ELEMENT);
        due("17: y 8", p.lights(0, 8, 0), NO_SUCH_ELEMENT);
        due("18: y 8", p.origin(0, 8, 0, 0), NO_SUCH_ELEMENT);
        due("18: channel 4", p.origin(0, 0, 0, 4), NO_SUCH_ELEMENT);
        due("19: y 8", p.wayLength(0, 8, 0, 0), NO_SUCH_ELEMENT);
        due("19: channel 4", p.wayLength(0, 0, 0, 4), NO_SUCH_ELEMENT);
        due("20: y 8", p.wayEnd(0, 8, 0, 0), NO_SUCH_ELEMENT);
        due("20: channel 4", p.wayEnd(0, 0, 0, 4), NO_SUCH_ELEMENT);
    }
}
