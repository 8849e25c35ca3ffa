/** Promises 29 to 36: dark, skyHeight, ray, brightest, regions, isConsistent, histogram, checksum. */
final class StatisticsTest extends Checks {
    public static void main(String[] args) {
        dark();
        skyHeight();
        raysWithoutLoss();
        raysWithLoss();
        brightest();
        regions();
        isConsistent();
        histogram();
        checksum();
        end();
    }

    private static void dark() {
        LightPropagator p = new LightPropagator();
        due("29: sunlight counts", p.dark(14), 0);
        due("29: all", p.dark(15), 1152);
        p = night();
        due("29: night", p.dark(0), 1152);
        p.setEmission(2, RED, 2);
        p.setEmission(3, GREEN, 2);
        p.setEmission(4, BLUE, 2);
        for (int type = 2; type <= 4; type++) {
            p.set(5, 5, 5, type);
            due("29: lit", p.dark(0), 1145);
            due("29: lit more", p.dark(1), 1151);
            due("29: none more", p.dark(2), 1152);
        }
        p.fill(0, 0, 0, 12, 8, 4);
        p.set(0, 0, 0, 1);
        p.set(11, 7, 11, 1);
        due("29: the first cell and the last", p.dark(1), 2);
        due("29: -1", p.dark(-1), BAD_VALUE);
        due("29: 16", p.dark(16), BAD_VALUE);
        due("29: least", p.dark(Integer.MIN_VALUE), BAD_VALUE);
        due("29: most", p.dark(Integer.MAX_VALUE), BAD_VALUE);
    }

    private static void skyHeight() {
        LightPropagator p = new LightPropagator();
        due("30: open", p.skyHeight(11, 11), 0);
        for (int y = 0; y < 8; y++) {
            p.set(3, y, 4, 1);
            due("30: on top of y " + y, p.skyHeight(3, 4), y + 1);
        }
        due("30: another column", p.skyHeight(4, 3), 0);
        p.set(3, 7, 4, 0);
        due("30: under the top", p.skyHeight(3, 4), 7);
        p.set(3, 6, 4, 0);
        p.set(3, 4, 4, 0);
        due("30: a hole below does not count", p.skyHeight(3, 4), 6);
        for (int outside : OUTSIDE) {
            due("30: x", p.skyHeight(outside, 0), NO_SUCH_ELEMENT);
            due("30: z", p.skyHeight(0, outside), NO_SUCH_ELEMENT);
        }
    }

    private static void raysWithoutLoss() {
        LightPropagator p = new LightPropagator();
        due("31: x - 1", p.ray(2, 3, 4, 0, 0), 16 * 2 + 15);
        due("31: x + 1", p.ray(2, 3, 4, 1, 0), 16 * 9 + 15);
        due("31: y - 1", p.ray(2, 3, 4, 2, 0), 16 * 3 + 15);
        due("31: y + 1", p.ray(2, 3, 4, 3, 0), 16 * 4 + 15);
        due("31: z - 1", p.ray(2, 3, 4, 4, 0), 16 * 4 + 15);
        due("31: z + 1", p.ray(2, 3, 4, 5, 0), 16 * 7 + 15);
        due("31: the longest", p.ray(0, 0, 0, 5, 0), 16 * 11 + 15);
        due("31: none", p.ray(11, 7, 11, 3, 0), 15);
        for (int outside : OUTSIDE) {
            due("31: x", p.ray(outside, 0, 0, 0, 0), NO_SUCH_ELEMENT);
            due("31: y", p.ray(0, outside, 0, 0, 0), NO_SUCH_ELEMENT);
            due("31: z", p.ray(0, 0, outside, 0, 0), NO_SUCH_ELEMENT);
            due("31: direction", p.ray(0, 0, 0, outside, 0), NO_SUCH_ELEMENT);
            due("31: channel", p.ray(0, 0, 0, 0, outside), NO_SUCH_ELEMENT);
        }
        due("31: y 8", p.ray(0, 8, 0, 0, 0), NO_SUCH_ELEMENT);
        due("31: direction 6", p.ray(0, 0, 0, 6, 0), NO_SUCH_ELEMENT);
        due("31: channel 4", p.ray(0, 0, 0, 0, 4), NO_SUCH_ELEMENT);
    }

    private static void raysWithLoss() {
        LightPropagator p = new LightPropagator();
        p.setLoss(2, RED, 4);
        p.setLoss(3, RED, 7);
        p.set(0, 0, 0, 1);
        due("31: no loss in the first cell", p.ray(0, 0, 0, 1, RED), 16 * 11 + 15);
        p.set(2, 0, 0, 2);
        due("31: through one", p.ray(0, 0, 0, 1, RED), 16 * 11 + 11);
        p.set(5, 0, 0, 3);
        due("31: through two", p.ray(0, 0, 0, 1, RED), 16 * 11 + 4);
        p.set(8, 0, 0, 2);
        due("31: ended with 0", p.ray(0, 0, 0, 1, RED), 16 * 7 + 4);
        p.set(8, 0, 0, 3);
        due("31: ended below 0", p.ray(0, 0, 0, 1, RED), 16 * 7 + 4);
        due("31: another channel", p.ray(0, 0, 0, 1, GREEN), 16 * 11 + 15);
        p.setLoss(2, RED, 3);
        p.set(8, 0, 0, 2);
        due("31: 2 are left", p.ray(0, 0, 0, 1, RED), 16 * 11 + 2);
        due("31: the first neighbor is a wall", p.ray(1, 0, 0, 0, RED), 15);
        p.setLoss(1, RED, 14);
        due("31: 1 is left", p.ray(1, 0, 0, 0, RED), 16 + 1);
    }

    private static void brightest() {
        LightPropagator p = night();
        for (int channel = 0; channel < 4; channel++) {
            due("32: none", p.brightest(channel), NONE);
        }
        p.setEmission(2, BLUE, 3);
        p.setEmission(3, BLUE, 4);
        p.set(11, 7, 11, 2);
        due("32: the last cell", p.brightest(BLUE), number(11, 7, 11));
        p.set(11, 0, 11, 2);
        due("32: the lesser y", p.brightest(BLUE), number(11, 0, 11));
        p.set(0, 7, 10, 2);
        due("32: the lesser z", p.brightest(BLUE), number(0, 7, 10));
        p.set(11, 7, 11, 3);
        due("32: the greater light", p.brightest(BLUE), number(11, 7, 11));
        p.set(3, 7, 11, 3);
        due("32: the lesser x", p.brightest(BLUE), number(3, 7, 11));
        due("32: another channel", p.brightest(RED), NONE);
        p.setEmission(3, RED, 1);
        due("32: a light of 1", p.brightest(RED), number(3, 7, 11));
        p.set(1, 0, 0, 3);
        due("32: the second cell", p.brightest(RED), number(1, 0, 0));
        p.set(0, 0, 0, 3);
        due("32: the first cell", p.brightest(RED), 0);
        due("32: sunlight", new LightPropagator().brightest(SUN), 0);
        for (int outside : OUTSIDE) {
            due("32: channel", p.brightest(outside), NO_SUCH_ELEMENT);
        }
        due("32: channel 4", p.brightest(4), NO_SUCH_ELEMENT);
    }

    private static void regions() {
        LightPropagator p = new LightPropagator();
        due("33: sunlight does not count", p.regions(1), 0);
        p.setEmission(2, RED, 3);
        p.setEmission(3, BLUE, 3);
        p.set(2, 2, 2, 2);
        due("33: one", p.regions(1), 1);
        p.set(8, 2, 2, 3);
        due("33: two that do not touch", p.regions(1), 2);
        p.set(8, 2, 2, 0);
        p.set(7, 2, 2, 3);
        due("33: different channels touch", p.regions(1), 1);
        due("33: a higher level", p.regions(2), 2);
        due("33: the highest", p.regions(3), 2);
        due("33: none", p.regions(4), 0);
        p.set(2, 7, 2, 3);
        p.set(2, 2, 9, 3);
        p.set(11, 7, 11, 2);
        due("33: touching up and apart in z", p.regions(1), 3);
        p.set(3, 3, 2, 2);
        due("33: corners are not neighbors", p.regions(3), 6);
        p.set(0, 0, 0, 2);
        due("33: the first cell", p.regions(3), 7);
        p.fill(0, 0, 0, 12, 8, 2);
        due("33: all cells", p.regions(3), 1);
        due("33: nothing changes", p.isConsistent(), 1);
        due("33: 0", p.regions(0), BAD_VALUE);
        due("33: 15", p.regions(15), 0);
        due("33: 16", p.regions(16), BAD_VALUE);
        due("33: least", p.regions(Integer.MIN_VALUE), BAD_VALUE);
        due("33: most", p.regions(Integer.MAX_VALUE), BAD_VALUE);
    }

    private static void isConsistent() {
        LightPropagator p = new LightPropagator();
        due("34: new", p.isConsistent(), 1);
        p.setEmission(2, RED, 13);
        p.set(2, 2, 2, 2);
        p.fill(0, 5, 0, 12, 1, 1);
        due("34: after changes", p.isConsistent(), 1);
        due("34: no change", p.undo(), 2);
        due("34: after undo", p.isConsistent(), 1);
    }

    private static void histogram() {
        LightPropagator p = night();
        p.setEmission(2, RED, 3);
        p.set(5, 3, 5, 2);
        due("35: 3", p.histogram(RED, 3), 1);
        due("35: 2", p.histogram(RED, 2), 6);
        due("35: 1", p.histogram(RED, 1), 18);
        due("35: 0", p.histogram(RED, 0), 1152 - 25);
        due("35: 15", p.histogram(RED, 15), 0);
        p.setEmission(3, GREEN, 7);
        p.set(0, 0, 0, 3);
        p.set(11, 7, 11, 3);
        due("35: the first cell and the last", p.histogram(GREEN, 7), 2);
        due("35: another channel", p.histogram(BLUE, 0), 1152);
        due("35: sunlight", new LightPropagator().histogram(SUN, 15), 1152);
        for (int outside : OUTSIDE) {
            due("35: channel", p.histogram(outside, 99), NO_SUCH_ELEMENT);
            if (outside != 12) {
                due("35: light", p.histogram(0, outside), BAD_VALUE);
            }
        }
        due("35: channel 4", p.histogram(4, 0), NO_SUCH_ELEMENT);
        due("35: light 16", p.histogram(SUN, 16), BAD_VALUE);
        due("35: light -1", p.histogram(SUN, -1), BAD_VALUE);
    }

    private static void checksum() {
        due("36: new", new LightPropagator().checksum(), -9054142677714636783L);
        long sum = 17;
        for (int z = 0; z < 12; z++) {
            LightPropagator p = lampAndBlock();
            for (int y = 0; y < 8; y++) {
                for (int x = 0; x < 12; x++) {
                    sum = sum * 31 + p.type(x, y, z) + 8 * p.lights(x, y, z);
                }
            }
        }
        due("36: of types and lights", lampAndBlock().checksum(), sum);
    }

    private static LightPropagator lampAndBlock() {
        LightPropagator p = new LightPropagator();
        p.setEmission(2, RED, 9);
        p.set(5, 3, 5, 2);
        p.set(0, 7, 0, 1);
        p.set(11, 7, 11, 7);
        return p;
    }
}
