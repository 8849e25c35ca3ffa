/** Each sentence of "Light" and "Origins", and of promises 16 to 20, that names a boundary. */
final class LightBoundaryTest extends Boundaries {
    public static void main(String[] args) {
        lightsAreFromZeroToFifteen();
        lightEndsWithZero();
        lossesThatLeaveOneAndNone();
        emissionIsNotLessened();
        lossOfTheCellAloneCounts();
        skyAtTheTopAlone();
        lossesAtTheTop();
        fifteenGoesDown();
        fifteenNeedsFifteenAbove();
        fifteenNeedsNoLoss();
        fifteenGoesDownInSunlightAlone();
        leastNumbers();
        sumOfTheGreatestLights();
        noLightHasNoOrigin();
        emissionIsTheFirstOrigin();
        skyIsAnOriginAtTheTopAlone();
        sunAboveIsNoDirection();
        leastDirection();
        originsInCorners();
        wayOfNoSteps();
        wayOfOneStep();
        longestWayOfColor();
        waysIntoCorners();
        wayOfSunlightDownTheBorder();
        longestWayOfSunlight();
        end();
    }

    private static LightPropagator lamp(int emission, int x, int y, int z) {
        LightPropagator p = night();
        p.setEmission(2, RED, emission);
        p.set(x, y, z, 2);
        return p;
    }

    /** "a light for each channel, a number from 0 to 15" */
    private static void lightsAreFromZeroToFifteen() {
        for (int channel = 0; channel < 3; channel++) {
            LightPropagator p = night();
            p.setEmission(2, channel, 15);
            p.set(0, 0, 0, 2);
            due("16: the greatest", p.light(0, 0, 0, channel), 15);
            due("16: the least", p.light(11, 7, 11, channel), 0);
            due("16: of another channel", p.light(0, 0, 0, (channel + 1) % 3), 0);
            due("16: of sunlight", p.light(0, 0, 0, SUN), 0);
        }
        due("16: the greatest sunlight", new LightPropagator().light(0, 0, 0, SUN), 15);
    }

    /** A light of 1 gives nothing, and no light is less than 0. */
    private static void lightEndsWithZero() {
        LightPropagator p = lamp(15, 0, 0, 0);
        due("16: 14 steps away", p.light(11, 3, 0, RED), 1);
        due("16: 15 steps away", p.light(11, 4, 0, RED), 0);
        due("16: 16 steps away", p.light(11, 5, 0, RED), 0);
        p.setEmission(2, RED, 1);
        due("16: beside an emission of 1", p.light(1, 0, 0, RED), 0);
        p.setEmission(2, RED, 2);
        due("16: beside an emission of 2", p.light(1, 0, 0, RED), 1);
        due("16: a step more", p.light(2, 0, 0, RED), 0);
        p.setEmission(2, RED, 0);
        due("16: without emission", p.histogram(RED, 0), 1152);
    }

    /** "the light of the neighbor in this channel minus 1 and minus the loss of its own type" */
    private static void lossesThatLeaveOneAndNone() {
        LightPropagator p = lamp(15, 5, 3, 5);
        p.set(6, 3, 5, 3);
        int[][] dues = {{0, 14}, {1, 13}, {12, 2}, {13, 1}, {14, 0}, {15, 0}};
        for (int[] d : dues) {
            p.setLoss(3, RED, d[0]);
            due("16: loss " + d[0] + " beside 15", p.light(6, 3, 5, RED), d[1]);
        }
        p.setEmission(2, RED, 1);
        p.setLoss(3, RED, 15);
        due("16: loss 15 beside 1", p.light(6, 3, 5, RED), 0);
    }

    /** "in channels 0 to 2, the emission of its type", also with a loss of 15. */
    private static void emissionIsNotLessened() {
        for (int emission = 0; emission <= 15; emission += 15) {
            LightPropagator p = lamp(emission, 5, 3, 5);
            p.setLoss(2, RED, 15);
            due("16: emission " + emission + " with loss 15", p.light(5, 3, 5, RED), emission);
        }
        LightPropagator p = lamp(1, 5, 3, 5);
        p.setLoss(2, RED, 15);
        due("16: emission 1 with loss 15", p.light(5, 3, 5, RED), 1);
    }

    /** The loss of the neighbor's type does not count, and that of other channels does not, either. */
    private static void lossOfTheCellAloneCounts() {
        LightPropagator p = lamp(15, 5, 3, 5);
        p.setLoss(2, RED, 15);
        due("16: beside a type with a loss", p.light(6, 3, 5, RED), 14);
        p.set(6, 3, 5, 3);
        p.setLoss(3, GREEN, 15);
        p.setLoss(3, BLUE, 15);
        p.setLoss(3, SUN, 15);
        due("16: losses of other channels", p.light(6, 3, 5, RED), 14);
    }

    /** "in a cell with y 7, 15 minus the loss of its type": not in a cell with y 6. */
    private static void skyAtTheTopAlone() {
        LightPropagator p = new LightPropagator();
        p.setLoss(3, SUN, 5);
        p.fill(0, 6, 0, 12, 2, 3);
        due("16: y 7", p.light(4, 7, 4, SUN), 10);
        due("16: y 6", p.light(4, 6, 4, SUN), 4);
        due("16: y 5", p.light(4, 5, 4, SUN), 3);
        due("16: y 4", p.light(4, 4, 4, SUN), 2);
        due("16: y 3", p.light(4, 3, 4, SUN), 1);
        due("16: y 2", p.light(4, 2, 4, SUN), 0);
        due("16: y 0", p.light(4, 0, 4, SUN), 0);
        due("16: no color comes from the sky", p.light(4, 7, 4, RED) + p.light(4, 7, 4, BLUE), 0);
    }

    private static void lossesAtTheTop() {
        LightPropagator p = new LightPropagator();
        p.fill(0, 7, 0, 12, 1, 3);
        for (int loss = 0; loss <= 15; loss++) {
            p.setLoss(3, SUN, loss);
            due("16: at the top with loss " + loss, p.light(11, 7, 0, SUN), 15 - loss);
            due("16: below the loss " + loss, p.light(11, 6, 0, SUN),
                    loss == 0 ? 15 : Math.max(0, 14 - loss));
        }
    }

    /** "and 15, if the cell above it has the light 15 in channel 3": down to y 0. */
    private static void fifteenGoesDown() {
        LightPropagator p = new LightPropagator();
        p.fill(0, 7, 0, 12, 1, 1);
        p.set(11, 7, 11, 0);
        for (int y = 0; y < 8; y++) {
            due("16: under a hole at y " + y, p.light(11, y, 11, SUN), 15);
        }
        due("16: beside it", p.light(11, 0, 10, SUN), 14);
        due("16: beside it at the top", p.light(11, 7, 10, SUN), 0);
    }

    /** The cell above has the light 14: then it is as for other neighbors. */
    private static void fifteenNeedsFifteenAbove() {
        LightPropagator p = new LightPropagator();
        p.setLoss(3, SUN, 1);
        p.fill(0, 7, 0, 12, 1, 3);
        due("16: 14 above", p.light(5, 7, 5, SUN), 14);
        due("16: below 14", p.light(5, 6, 5, SUN), 13);
        due("16: at the ground", p.light(5, 0, 5, SUN), 7);
    }

    /** "and its own type has the loss 0 in channel 3" */
    private static void fifteenNeedsNoLoss() {
        LightPropagator p = new LightPropagator();
        p.setLoss(3, SUN, 1);
        p.fill(0, 4, 0, 12, 1, 3);
        due("16: loss 1 below 15", p.light(5, 4, 5, SUN), 13);
        due("16: below that", p.light(5, 3, 5, SUN), 12);
        p.setLoss(3, RED, 15);
        p.setLoss(3, SUN, 0);
        due("16: a loss in another channel", p.light(5, 0, 5, SUN), 15);
    }

    private static void fifteenGoesDownInSunlightAlone() {
        LightPropagator p = lamp(15, 5, 7, 5);
        p.setEmission(3, RED, 15);
        due("16: red below 15", p.light(5, 6, 5, RED), 14);
        p.set(5, 6, 5, 3);
        due("16: red below two of 15", p.light(5, 5, 5, RED), 14);
    }

    /** "The lights of all cells are the least numbers for which this holds": nothing stays behind. */
    private static void leastNumbers() {
        LightPropagator p = lamp(15, 5, 3, 5);
        p.set(5, 3, 5, 0);
        due("16: no lamp is left", p.histogram(RED, 0), 1152);
        p = new LightPropagator();
        p.fill(0, 7, 0, 12, 1, 1);
        due("16: no sky is left", p.histogram(SUN, 0), 1152);
    }

    /** 15 times 1, 16, 256 and 4096. */
    private static void sumOfTheGreatestLights() {
        LightPropagator p = new LightPropagator();
        p.set(11, 7, 11, 7);
        for (int channel = 0; channel < 3; channel++) {
            p.setEmission(7, channel, 15);
        }
        due("17: all lights are 15", p.lights(11, 7, 11), 65535);
        due("17: 14 in three", p.lights(10, 7, 11), 14 + 14 * 16 + 14 * 256 + 15 * 4096);
        due("17: none", night().lights(0, 0, 0), 0);
        int[] weights = {1, 16, 256};
        for (int channel = 0; channel < 3; channel++) {
            p = night();
            p.setEmission(7, channel, 15);
            p.set(0, 0, 0, 7);
            due("17: 15 in channel " + channel, p.lights(0, 0, 0), 15 * weights[channel]);
        }
        due("17: sunlight", new LightPropagator().lights(0, 0, 0), 15 * 4096);
    }

    /** "NONE if the light is 0", and an origin if it is 1. */
    private static void noLightHasNoOrigin() {
        LightPropagator p = lamp(2, 5, 3, 5);
        due("18: light 1", p.origin(6, 3, 5, RED), 0);
        due("18: light 0", p.origin(7, 3, 5, RED), NONE);
        due("19: light 0", p.wayLength(7, 3, 5, RED), NONE);
        due("20: light 0", p.wayEnd(7, 3, 5, RED), NONE);
        due("18: no sunlight at y 7", p.origin(5, 7, 5, SUN), NONE);
        p.setEmission(2, RED, 0);
        due("18: an emission of 0 is the light", p.origin(5, 3, 5, RED), NONE);
    }

    /** "6, if the light is the emission of the type of the cell", also if a neighbor would give as much. */
    private static void emissionIsTheFirstOrigin() {
        LightPropagator p = lamp(15, 5, 3, 5);
        p.setEmission(3, RED, 14);
        p.set(6, 3, 5, 3);
        due("18: as much as from a neighbor", p.origin(6, 3, 5, RED), 6);
        due("19: as much as from a neighbor", p.wayLength(6, 3, 5, RED), 0);
        p.setEmission(3, RED, 13);
        due("18: one less than from a neighbor", p.origin(6, 3, 5, RED), 0);
        due("19: one less than from a neighbor", p.wayLength(6, 3, 5, RED), 1);
        p.setEmission(3, RED, 15);
        due("18: one more", p.origin(6, 3, 5, RED), 6);
        p.setEmission(3, RED, 1);
        p.setLoss(3, RED, 13);
        due("18: an emission of 1 and as much from a neighbor", p.origin(6, 3, 5, RED), 6);
    }

    /** "7, in channel 3 in a cell with y 7, if it is 15 minus the loss of its type" */
    private static void skyIsAnOriginAtTheTopAlone() {
        LightPropagator p = new LightPropagator();
        p.set(3, 7, 3, 4);
        for (int loss = 0; loss <= 14; loss++) {
            p.setLoss(4, SUN, loss);
            due("18: at the top with loss " + loss, p.origin(3, 7, 3, SUN), 7);
        }
        p.setLoss(4, SUN, 15);
        due("18: at the top with loss 15", p.origin(3, 7, 3, SUN), NONE);
        due("18: at y 6 below it", p.origin(3, 6, 3, SUN), 0);
        due("18: at y 6", p.origin(4, 6, 3, SUN), 8);
        LightPropagator red = lamp(15, 3, 7, 3);
        due("18: red at the top is from a neighbor", red.origin(4, 7, 3, RED), 0);
    }

    /** "8, in channel 3, if it is 15": less than 15 from above is direction 3. */
    private static void sunAboveIsNoDirection() {
        LightPropagator p = new LightPropagator();
        due("18: 15 from above", p.origin(0, 6, 0, SUN), 8);
        due("18: 15 at the ground", p.origin(0, 0, 0, SUN), 8);
        p.setLoss(3, SUN, 1);
        p.fill(0, 6, 0, 12, 1, 3);
        due("18: with a loss", p.origin(0, 6, 0, SUN), 3);
        due("18: below that", p.origin(0, 5, 0, SUN), 3);
        LightPropagator red = lamp(15, 3, 7, 3);
        due("18: red from above", red.origin(3, 6, 3, RED), 3);
    }

    /** "otherwise the least direction of a neighbor": six lamps, put out one by one. */
    private static void leastDirection() {
        LightPropagator p = night();
        int[][] lamps = {{4, 3, 5}, {6, 3, 5}, {5, 2, 5}, {5, 4, 5}, {5, 3, 4}, {5, 3, 6}};
        p.setEmission(2, RED, 2);
        for (int[] lamp : lamps) {
            p.set(lamp[0], lamp[1], lamp[2], 2);
        }
        for (int direction = 0; direction < 6; direction++) {
            int[] lamp = lamps[direction];
            due("18: direction " + direction, p.origin(5, 3, 5, RED), direction);
            due("19: direction " + direction, p.wayLength(5, 3, 5, RED), 1);
            due("20: direction " + direction, p.wayEnd(5, 3, 5, RED), number(lamp[0], lamp[1], lamp[2]));
            p.set(lamp[0], lamp[1], lamp[2], 0);
        }
        due("18: no lamp", p.origin(5, 3, 5, RED), NONE);
    }

    private static void originsInCorners() {
        due("18: x + 1", lamp(2, 1, 0, 0).origin(0, 0, 0, RED), 1);
        due("18: y + 1", lamp(2, 0, 1, 0).origin(0, 0, 0, RED), 3);
        due("18: z + 1", lamp(2, 0, 0, 1).origin(0, 0, 0, RED), 5);
        due("18: x - 1", lamp(2, 10, 7, 11).origin(11, 7, 11, RED), 0);
        due("18: y - 1", lamp(2, 11, 6, 11).origin(11, 7, 11, RED), 2);
        due("18: z - 1", lamp(2, 11, 7, 10).origin(11, 7, 11, RED), 4);
    }

    /** "until a cell whose origin is 6 or 7", which can be the cell itself. */
    private static void wayOfNoSteps() {
        for (int[] c : CORNERS) {
            LightPropagator p = lamp(1, c[0], c[1], c[2]);
            due("19: in the lamp", p.wayLength(c[0], c[1], c[2], RED), 0);
            due("20: in the lamp", p.wayEnd(c[0], c[1], c[2], RED), number(c[0], c[1], c[2]));
        }
        LightPropagator p = new LightPropagator();
        due("19: at the top", p.wayLength(11, 7, 0, SUN), 0);
        due("20: at the top", p.wayEnd(11, 7, 0, SUN), number(11, 7, 0));
    }

    private static void wayOfOneStep() {
        LightPropagator p = lamp(2, 11, 7, 11);
        due("19: beside the lamp", p.wayLength(11, 6, 11, RED), 1);
        due("20: beside the lamp", p.wayEnd(11, 6, 11, RED), 1195);
        p = new LightPropagator();
        due("19: below the top", p.wayLength(0, 6, 0, SUN), 1);
        due("20: below the top", p.wayEnd(0, 6, 0, SUN), 84);
    }

    private static void longestWayOfColor() {
        LightPropagator p = lamp(15, 0, 0, 0);
        due("19: 14 steps", p.wayLength(11, 3, 0, RED), 14);
        due("20: 14 steps", p.wayEnd(11, 3, 0, RED), 0);
        due("19: 15 steps", p.wayLength(11, 4, 0, RED), NONE);
        due("20: 15 steps", p.wayEnd(11, 4, 0, RED), NONE);
        p = lamp(15, 11, 7, 11);
        due("19: 14 steps from the last cell", p.wayLength(0, 4, 11, RED), 14);
        due("20: 14 steps from the last cell", p.wayEnd(0, 4, 11, RED), 1195);
    }

    /** From a lamp in each corner along the borders into the corner above or below it. */
    private static void waysIntoCorners() {
        for (int[] c : CORNERS) {
            LightPropagator p = lamp(15, c[0], c[1], c[2]);
            due("19: to the corner in y", p.wayLength(c[0], 7 - c[1], c[2], RED), 7);
            due("20: to the corner in y", p.wayEnd(c[0], 7 - c[1], c[2], RED), number(c[0], c[1], c[2]));
            due("19: to the corner in x", p.wayLength(11 - c[0], c[1], c[2], RED), 11);
            due("20: to the corner in x", p.wayEnd(11 - c[0], c[1], c[2], RED), number(c[0], c[1], c[2]));
            due("19: to the corner in z", p.wayLength(c[0], c[1], 11 - c[2], RED), 11);
            due("20: to the corner in z", p.wayEnd(c[0], c[1], 11 - c[2], RED), number(c[0], c[1], c[2]));
        }
    }

    /** "with 8 to the cell above" */
    private static void wayOfSunlightDownTheBorder() {
        for (int[] c : CORNERS) {
            LightPropagator p = new LightPropagator();
            due("19: up the border", p.wayLength(c[0], c[1], c[2], SUN), 7 - c[1]);
            due("20: up the border", p.wayEnd(c[0], c[1], c[2], SUN), number(c[0], 7, c[2]));
        }
    }

    /** 14 steps to the sides, where the light is 1, and 7 steps down. */
    private static void longestWayOfSunlight() {
        LightPropagator p = new LightPropagator();
        p.fill(0, 7, 0, 12, 1, 1);
        p.set(0, 7, 0, 0);
        due("16: the last light", p.light(11, 0, 3, SUN), 1);
        due("19: the last light", p.wayLength(11, 0, 3, SUN), 21);
        due("20: the last light", p.wayEnd(11, 0, 3, SUN), 84);
        due("19: behind it", p.wayLength(11, 0, 4, SUN), NONE);
        p.set(0, 7, 0, 1);
        p.set(11, 7, 11, 0);
        due("19: from the last column", p.wayLength(0, 0, 8, SUN), 21);
        due("20: from the last column", p.wayEnd(0, 0, 8, SUN), 1195);
    }
}
