/** Each sentence of "Details", and of promises 24 to 36, that names a boundary of what is asked. */
final class QuestionBoundaryTest extends Boundaries {
    public static void main(String[] args) {
        lightIfOfAllAndNothing();
        lightIfOfThePresentType();
        spreadCountsTheCellItself();
        spreadOfNothing();
        spreadOfTheGreatest();
        spreadWithinOtherLight();
        neededOfLeastAndGreatest();
        neededWithLossAbove();
        neededBelowTheTop();
        neededInOtherLight();
        neededInPlaceOfItsOwn();
        chunkSumOfNothingAndAll();
        crossingsOfTheSameChunk();
        crossingsOfChunksThatDoNotTouch();
        crossingsOfAllThatTouch();
        crossingsOfOriginsWithoutNeighbor();
        crossingsTellTheirDirection();
        darkCountsAllChannels();
        darkAtItsLevel();
        skyHeightOfOpenAndShut();
        skyHeightNeedsFifteen();
        skyHeightStopsAtTheFirst();
        rayOutOfTheWorld();
        rayThroughTheWorld();
        rayEndsAtTheBorder();
        rayWithOneLeftAndNone();
        rayLosesNothingInItsFirstCell();
        rayEndsForGood();
        brightestOfNothing();
        brightestOfSeveral();
        regionsAtTheirLevel();
        regionsOfSeveralChannels();
        regionsThatTouch();
        regionsAroundCorners();
        regionsOfNothingAndAll();
        consistentAlways();
        histogramOfNothingAndAll();
        checksumWrapsAround();
        checksumOfTheGreatest();
        end();
    }

    private static LightPropagator lamp(int emission, int x, int y, int z) {
        LightPropagator p = night();
        p.setEmission(2, RED, emission);
        p.set(x, y, z, 2);
        return p;
    }

    /** The greatest sum, 15 in all cells, and the least. */
    private static void lightIfOfAllAndNothing() {
        LightPropagator p = new LightPropagator();
        due("24: the greatest sum", p.lightIf(0, 0, 0, 7, SUN), 15 * 1152);
        due("24: the least sum", p.lightIf(0, 0, 0, 7, RED), 0);
        p.fill(0, 7, 0, 12, 1, 1);
        due("24: all shut", p.lightIf(11, 7, 11, 1, SUN), 0);
        due("24: the last block is open", p.lightIf(11, 7, 11, 0, SUN) > 0 ? 1 : 0, 1);
        due("24: a block in the first cell", new LightPropagator().lightIf(0, 0, 0, 1, SUN), 15 * 1151);
        due("24: a block at the top", new LightPropagator().lightIf(11, 7, 11, 1, SUN), 15 * 1152 - 15 - 7);
    }

    private static void lightIfOfThePresentType() {
        LightPropagator p = lamp(2, 11, 7, 11);
        due("24: as it is", p.lightIf(11, 7, 11, 2, RED), 2 + 3);
        due("24: all chunks as it is", p.chunkSum(8, RED), 2 + 3);
        due("24: without it", p.lightIf(11, 7, 11, 0, RED), 0);
        due("24: one more", p.lightIf(0, 0, 0, 2, RED), 10);
        due("24: nothing changes", p.histogram(RED, 2), 1);
    }

    /** "For spread, the cell itself counts, too." */
    private static void spreadCountsTheCellItself() {
        due("25: itself alone", lamp(1, 5, 3, 5).spread(5, 3, 5, RED), 1);
        due("25: itself and six", lamp(2, 5, 3, 5).spread(5, 3, 5, RED), 7);
        due("25: itself and three", lamp(2, 0, 0, 0).spread(0, 0, 0, RED), 4);
    }

    private static void spreadOfNothing() {
        LightPropagator p = lamp(15, 5, 3, 5);
        due("25: no emission", p.spread(6, 3, 5, RED), 0);
        due("25: another channel", p.spread(5, 3, 5, GREEN), 0);
        p.setEmission(2, RED, 0);
        due("25: an emission of 0", p.spread(5, 3, 5, RED), 0);
    }

    private static void spreadOfTheGreatest() {
        int near = 0;
        for (int n = 0; n < 1152; n++) {
            near += n % 12 + n / 12 % 8 + n / 96 <= 14 ? 1 : 0;
        }
        due("25: from a corner", lamp(15, 0, 0, 0).spread(0, 0, 0, RED), near);
        LightPropagator p = night();
        p.fill(0, 0, 0, 12, 8, 2);
        p.setEmission(2, RED, 15);
        due("25: all cells shine, so one gets darker", p.spread(3, 3, 3, RED), 1);
    }

    /** "if the type of a cell had no emission in this channel in this cell alone" */
    private static void spreadWithinOtherLight() {
        LightPropagator p = lamp(3, 5, 3, 5);
        p.set(5, 3, 8, 2);
        due("25: a cell nearer to another does not count", p.spread(5, 3, 5, RED), 25 - 1);
        p.set(5, 3, 8, 0);
        p.set(5, 3, 7, 2);
        due("25: cells as near to another do not count", p.spread(5, 3, 5, RED), 25 - 5 - 1);
        p.set(5, 3, 7, 0);
        p.setEmission(3, RED, 4);
        p.set(6, 3, 5, 3);
        due("25: as bright by another", p.spread(5, 3, 5, RED), 0);
    }

    /** "wanted: the wanted light, 0 to 15" */
    private static void neededOfLeastAndGreatest() {
        LightPropagator p = night();
        due("26: 0", p.needed(5, 3, 5, RED, 0), 0);
        due("26: 1", p.needed(5, 3, 5, RED, 1), 2);
        due("26: 14", p.needed(5, 3, 5, RED, 14), 15);
        due("26: 15", p.needed(5, 3, 5, RED, 15), NONE);
    }

    /** "NONE if 15 does not suffice" */
    private static void neededWithLossAbove() {
        LightPropagator p = night();
        p.set(5, 4, 5, 3);
        for (int loss = 0; loss <= 15; loss++) {
            p.setLoss(3, RED, loss);
            due("26: loss 0 for 0 above", p.needed(5, 3, 5, RED, 0), 0);
            due("26: 1 with loss " + loss, p.needed(5, 3, 5, RED, 1), loss <= 13 ? loss + 2 : NONE);
            if (loss <= 13) {
                due("26: the most with loss " + loss, p.needed(5, 3, 5, RED, 14 - loss), 15);
                due("26: one more with loss " + loss, p.needed(5, 3, 5, RED, 15 - loss), NONE);
            }
        }
        p.set(5, 3, 5, 3);
        p.set(5, 4, 5, 0);
        due("26: its own loss does not count", p.needed(5, 3, 5, RED, 14), 15);
    }

    /** "NO_SUCH_ELEMENT if there is no such cell or channel, or no neighbor above (checked first)" */
    private static void neededBelowTheTop() {
        LightPropagator p = new LightPropagator();
        due("26: y 6", p.needed(11, 6, 11, BLUE, 1), 2);
        due("26: y 7", p.needed(11, 7, 11, BLUE, 1), NO_SUCH_ELEMENT);
        due("26: y 7 for 0", p.needed(0, 7, 0, BLUE, 0), NO_SUCH_ELEMENT);
        due("26: y 7 for 16", p.needed(0, 7, 0, BLUE, 16), NO_SUCH_ELEMENT);
        due("26: y 0", p.needed(0, 0, 0, RED, 1), 2);
    }

    /** "0 is enough if the cell above has the wanted light without it" */
    private static void neededInOtherLight() {
        LightPropagator p = lamp(15, 5, 4, 5);
        due("26: a lamp above shines with 15", p.needed(5, 3, 5, RED, 15), 0);
        p = lamp(8, 6, 4, 5);
        due("26: 7 come from another", p.needed(5, 3, 5, RED, 7), 0);
        due("26: 8 do not", p.needed(5, 3, 5, RED, 8), 9);
        due("26: 6 do", p.needed(5, 3, 5, RED, 6), 0);
    }

    /** "the emission is put in place of that of the type" */
    private static void neededInPlaceOfItsOwn() {
        LightPropagator p = lamp(15, 5, 3, 5);
        due("26: not more than it has", p.needed(5, 3, 5, RED, 14), 15);
        due("26: less than it has", p.needed(5, 3, 5, RED, 1), 2);
        due("26: none of it", p.needed(5, 3, 5, RED, 0), 0);
        p.set(6, 3, 5, 2);
        due("26: another of its type shines", p.needed(5, 3, 5, RED, 13), 0);
    }

    private static void chunkSumOfNothingAndAll() {
        LightPropagator p = new LightPropagator();
        for (int chunk = 0; chunk < 9; chunk++) {
            due("27: the greatest", p.chunkSum(chunk, SUN), 15 * 128);
            due("27: the least", p.chunkSum(chunk, BLUE), 0);
        }
        p = night();
        p.setEmission(2, RED, 1);
        p.fill(4, 0, 4, 4, 8, 2);
        for (int chunk = 0; chunk < 9; chunk++) {
            due("27: chunk 4 alone", p.chunkSum(chunk, RED), chunk == 4 ? 128 : 0);
        }
    }

    /** "BAD_VALUE if both chunks are the same" */
    private static void crossingsOfTheSameChunk() {
        LightPropagator p = new LightPropagator();
        for (int chunk = 0; chunk < 9; chunk++) {
            due("28: " + chunk, p.crossings(chunk, chunk, RED), BAD_VALUE);
            due("28: sunlight " + chunk, p.crossings(chunk, chunk, SUN), BAD_VALUE);
        }
        due("28: 9 and 9", p.crossings(9, 9, RED), NO_SUCH_ELEMENT);
        due("28: -1 and -1", p.crossings(-1, -1, RED), NO_SUCH_ELEMENT);
        due("28: channel 4", p.crossings(8, 8, 4), NO_SUCH_ELEMENT);
    }

    /** "chunks that do not touch have 0": those at a corner and those beyond another chunk. */
    private static void crossingsOfChunksThatDoNotTouch() {
        LightPropagator p = lamp(15, 5, 3, 5);
        LightPropagator sun = holeAt(5, 5);
        for (int chunk = 0; chunk < 9; chunk++) {
            for (int other = 0; other < 9; other++) {
                int apart = Math.abs(chunk / 3 - other / 3) + Math.abs(chunk % 3 - other % 3);
                if (apart > 1) {
                    due("28: red " + chunk + " " + other, p.crossings(chunk, other, RED), 0);
                    due("28: sunlight " + chunk + " " + other, sun.crossings(chunk, other, SUN), 0);
                }
            }
        }
    }

    private static LightPropagator holeAt(int x, int z) {
        LightPropagator p = new LightPropagator();
        p.fill(0, 7, 0, 12, 1, 1);
        p.set(x, 7, z, 0);
        return p;
    }

    /** A lamp of 2 beside each inner border: one cell beyond it takes its light. */
    private static void crossingsOfAllThatTouch() {
        int[][] borders = {{3, 4}, {4, 3}, {7, 8}, {8, 7}};
        int[] middles = {1, 5, 9};
        for (int[] b : borders) {
            for (int part = 0; part < 3; part++) {
                int from = b[0] / 4;
                int to = b[1] / 4;
                LightPropagator inX = lamp(2, b[0], 0, middles[part]);
                due("28: over x " + b[0], inX.crossings(3 * part + to, 3 * part + from, RED), 1);
                due("28: back over x " + b[0], inX.crossings(3 * part + from, 3 * part + to, RED), 0);
                LightPropagator inZ = lamp(2, middles[part], 7, b[0]);
                due("28: over z " + b[0], inZ.crossings(3 * to + part, 3 * from + part, RED), 1);
                due("28: back over z " + b[0], inZ.crossings(3 * from + part, 3 * to + part, RED), 0);
            }
        }
    }

    /** "only lights with the origins 0 to 5 count" */
    private static void crossingsOfOriginsWithoutNeighbor() {
        LightPropagator p = night();
        p.setEmission(2, RED, 5);
        p.fill(0, 0, 0, 12, 8, 2);
        due("28: origin 6", p.crossings(1, 0, RED), 0);
        due("28: no light", p.crossings(1, 0, GREEN), 0);
        p = new LightPropagator();
        due("28: origins 7 and 8", p.crossings(1, 0, SUN) + p.crossings(3, 0, SUN), 0);
    }

    /** Of two neighbors that give as much, the one of the least direction is counted. */
    private static void crossingsTellTheirDirection() {
        LightPropagator p = lamp(2, 3, 0, 0);
        p.set(5, 0, 0, 2);
        due("28: x - 1 is in another chunk", p.crossings(1, 0, RED), 1);
        p = lamp(2, 2, 0, 0);
        p.set(4, 0, 0, 2);
        due("28: x + 1 comes second", p.crossings(0, 1, RED), 0);
        p.set(2, 0, 0, 0);
        due("28: x + 1 alone", p.crossings(0, 1, RED), 1);
    }

    /** "For dark, all four channels count." */
    private static void darkCountsAllChannels() {
        for (int channel = 0; channel < 3; channel++) {
            LightPropagator p = night();
            p.setEmission(2, channel, 1);
            p.set(11, 7, 11, 2);
            due("29: channel " + channel, p.dark(0), 1151);
        }
        LightPropagator p = night();
        p.setLoss(2, SUN, 14);
        p.set(11, 7, 11, 2);
        due("29: sunlight", p.dark(0), 1151);
        due("29: at most 1", p.dark(1), 1152);
    }

    /** "at most a level" */
    private static void darkAtItsLevel() {
        LightPropagator p = lamp(15, 0, 0, 0);
        due("29: 14", p.dark(14), 1151);
        due("29: 15", p.dark(15), 1152);
        due("29: 13", p.dark(13), 1148);
        due("29: 0", p.dark(0), 1152 - p.spread(0, 0, 0, RED));
        due("29: in sunlight", new LightPropagator().dark(14), 0);
        due("29: 15 in sunlight", new LightPropagator().dark(15), 1152);
    }

    /** "8 if the uppermost cell has less" */
    private static void skyHeightOfOpenAndShut() {
        int[][] columns = {{0, 0}, {11, 0}, {0, 11}, {11, 11}};
        for (int[] c : columns) {
            LightPropagator p = new LightPropagator();
            due("30: open", p.skyHeight(c[0], c[1]), 0);
            p.set(c[0], 0, c[1], 1);
            due("30: a block on the ground", p.skyHeight(c[0], c[1]), 1);
            p.set(c[0], 6, c[1], 1);
            due("30: a block at y 6", p.skyHeight(c[0], c[1]), 7);
            p.set(c[0], 7, c[1], 1);
            due("30: a block at y 7", p.skyHeight(c[0], c[1]), 8);
            due("30: another column", p.skyHeight(5, 5), 0);
        }
    }

    /** "have the light 15 in channel 3": 14 is not enough, and other channels do not count. */
    private static void skyHeightNeedsFifteen() {
        LightPropagator p = new LightPropagator();
        p.set(3, 7, 4, 3);
        p.set(3, 2, 5, 3);
        p.setLoss(3, SUN, 1);
        due("30: 14 at the top", p.skyHeight(3, 4), 8);
        due("30: 13 at y 2", p.skyHeight(3, 5), 3);
        p.setEmission(3, RED, 15);
        due("30: 15 in red", p.skyHeight(3, 4), 8);
    }

    /** A cell with 15 below one with less does not count. */
    private static void skyHeightStopsAtTheFirst() {
        LightPropagator p = new LightPropagator();
        p.set(3, 5, 4, 1);
        due("30: under a block at y 5", p.skyHeight(3, 4), 6);
        p.set(3, 5, 4, 0);
        p.set(3, 4, 4, 1);
        p.set(3, 2, 4, 1);
        due("30: the upper one of two", p.skyHeight(3, 4), 5);
    }

    /** "15 if there is none": from each corner, in the directions that lead out of the world. */
    private static void rayOutOfTheWorld() {
        for (int[] c : CORNERS) {
            for (int channel = 0; channel < 4; channel++) {
                LightPropagator p = new LightPropagator();
                due("31: out in x", p.ray(c[0], c[1], c[2], c[0] == 0 ? 0 : 1, channel), 15);
                due("31: out in y", p.ray(c[0], c[1], c[2], c[1] == 0 ? 2 : 3, channel), 15);
                due("31: out in z", p.ray(c[0], c[1], c[2], c[2] == 0 ? 4 : 5, channel), 15);
            }
        }
    }

    private static void rayThroughTheWorld() {
        for (int[] c : CORNERS) {
            LightPropagator p = new LightPropagator();
            due("31: through x", p.ray(c[0], c[1], c[2], c[0] == 0 ? 1 : 0, RED), 16 * 11 + 15);
            due("31: through y", p.ray(c[0], c[1], c[2], c[1] == 0 ? 3 : 2, RED), 16 * 7 + 15);
            due("31: through z", p.ray(c[0], c[1], c[2], c[2] == 0 ? 5 : 4, RED), 16 * 11 + 15);
        }
        LightPropagator p = new LightPropagator();
        due("31: one cell to the border", p.ray(10, 6, 1, 1, SUN), 16 + 15);
        due("31: one cell to the top", p.ray(10, 6, 1, 3, SUN), 16 + 15);
        due("31: one cell to z 0", p.ray(10, 6, 1, 4, SUN), 16 + 15);
    }

    /** The loss of the last cell at the border counts, too. */
    private static void rayEndsAtTheBorder() {
        LightPropagator p = new LightPropagator();
        p.set(11, 7, 11, 3);
        int[][] rays = {{0, 7, 11, 1, 11}, {11, 0, 11, 3, 7}, {11, 7, 0, 5, 11}};
        int[][] losses = {{0, 0, 15}, {1, 0, 14}, {14, 0, 1}, {15, 1, 15}};
        for (int[] loss : losses) {
            p.setLoss(3, GREEN, loss[0]);
            for (int[] r : rays) {
                due("31: loss " + loss[0] + " at the border", p.ray(r[0], r[1], r[2], r[3], GREEN),
                        16 * (r[4] - loss[1]) + loss[2]);
            }
        }
        due("31: the loss of another channel", p.ray(0, 7, 11, 1, RED), 16 * 11 + 15);
    }

    /** "with a strength greater than 0": 1 is enough, 0 is not, and less than 0 is not. */
    private static void rayWithOneLeftAndNone() {
        LightPropagator p = new LightPropagator();
        p.setLoss(2, RED, 7);
        p.set(2, 0, 0, 2);
        p.set(4, 0, 0, 3);
        p.setLoss(3, RED, 7);
        due("31: 1 is left", p.ray(0, 0, 0, 1, RED), 16 * 11 + 1);
        p.setLoss(3, RED, 8);
        due("31: 0 is left", p.ray(0, 0, 0, 1, RED), 16 * 3 + 8);
        p.setLoss(3, RED, 9);
        due("31: less than 0 is left", p.ray(0, 0, 0, 1, RED), 16 * 3 + 8);
        due("31: the first cell takes all", new LightPropagator().set(1, 0, 0, 1), 1);
        p.set(1, 0, 0, 1);
        due("31: none", p.ray(0, 0, 0, 1, RED), 15);
        p.setLoss(1, RED, 14);
        due("31: 1 is left in the first, none in the third", p.ray(0, 0, 0, 1, RED), 16 + 1);
    }

    /** "A ray does not lose strength in its first cell" */
    private static void rayLosesNothingInItsFirstCell() {
        LightPropagator p = new LightPropagator();
        p.set(5, 3, 5, 1);
        due("31: from a block", p.ray(5, 3, 5, 0, RED), 16 * 5 + 15);
        due("31: up from a block", p.ray(5, 3, 5, 3, SUN), 16 * 4 + 15);
        due("31: to the block", p.ray(0, 3, 5, 1, RED), 16 * 4 + 15);
    }

    /** "It ends in the last cell to which it comes": cells behind it do not count. */
    private static void rayEndsForGood() {
        LightPropagator p = new LightPropagator();
        p.set(3, 0, 0, 1);
        due("31: behind a block", p.ray(0, 0, 0, 1, SUN), 16 * 2 + 15);
        p.set(3, 0, 0, 0);
        p.setLoss(2, SUN, 1);
        p.fill(0, 0, 0, 12, 1, 2);
        due("31: 11 times 1", p.ray(0, 0, 0, 1, SUN), 16 * 11 + 4);
        p.setLoss(2, SUN, 2);
        due("31: 7 times 2", p.ray(0, 0, 0, 1, SUN), 16 * 7 + 1);
        p.setLoss(2, SUN, 3);
        due("31: 4 times 3", p.ray(0, 0, 0, 1, SUN), 16 * 4 + 3);
    }

    /** "NONE if all lights of the channel are 0" */
    private static void brightestOfNothing() {
        LightPropagator p = new LightPropagator();
        due("32: red", p.brightest(RED), NONE);
        due("32: blue", p.brightest(BLUE), NONE);
        p.fill(0, 7, 0, 12, 1, 1);
        due("32: sunlight", p.brightest(SUN), NONE);
        due("32: 1 in the last cell", lamp(1, 11, 7, 11).brightest(RED), 1195);
        due("32: 1 in the first cell", lamp(1, 0, 0, 0).brightest(RED), 0);
    }

    /** "of several the first one by z, then y, then x" */
    private static void brightestOfSeveral() {
        LightPropagator p = night();
        p.setEmission(2, RED, 15);
        int[][] lamps = {{11, 7, 11}, {0, 7, 11}, {11, 0, 11}, {0, 0, 11}, {11, 7, 0}, {0, 7, 0}, {11, 0, 0},
            {1, 0, 0}, {0, 0, 0}};
        for (int[] lamp : lamps) {
            p.set(lamp[0], lamp[1], lamp[2], 2);
            due("32: the first of several", p.brightest(RED), number(lamp[0], lamp[1], lamp[2]));
        }
        due("32: sunlight", new LightPropagator().brightest(SUN), 0);
    }

    /** "with a light of at least a level" */
    private static void regionsAtTheirLevel() {
        LightPropagator p = lamp(1, 0, 0, 0);
        due("33: 1 at 1", p.regions(1), 1);
        due("33: 1 at 2", p.regions(2), 0);
        p.setEmission(2, RED, 15);
        due("33: 15 at 15", p.regions(15), 1);
        p.setEmission(2, RED, 14);
        due("33: 14 at 15", p.regions(15), 0);
        due("33: 14 at 14", p.regions(14), 1);
    }

    /** "in a channel of 0 to 2", and "cells next to one another can have their lights in different channels" */
    private static void regionsOfSeveralChannels() {
        due("33: sunlight does not count", new LightPropagator().regions(1), 0);
        for (int channel = 0; channel < 3; channel++) {
            LightPropagator p = night();
            p.setEmission(2, channel, 1);
            p.setEmission(3, (channel + 1) % 3, 1);
            p.set(5, 3, 5, 2);
            due("33: channel " + channel, p.regions(1), 1);
            p.set(6, 3, 5, 3);
            due("33: beside another channel", p.regions(1), 1);
            p.set(8, 3, 5, 3);
            due("33: apart from another channel", p.regions(1), 2);
        }
    }

    /** "connected by neighbors in the set": in each direction, not by corners and not across the border. */
    private static void regionsThatTouch() {
        int[][] beside = {{4, 3, 5}, {6, 3, 5}, {5, 2, 5}, {5, 4, 5}, {5, 3, 4}, {5, 3, 6}};
        for (int[] b : beside) {
            LightPropagator p = lamp(1, 5, 3, 5);
            p.set(b[0], b[1], b[2], 2);
            due("33: two beside one another", p.regions(1), 1);
        }
        int[][] apart = {{6, 4, 5}, {6, 3, 6}, {5, 4, 6}, {4, 2, 5}, {4, 3, 6}, {6, 4, 6}, {7, 3, 5}};
        for (int[] a : apart) {
            LightPropagator p = lamp(1, 5, 3, 5);
            p.set(a[0], a[1], a[2], 2);
            due("33: two apart", p.regions(1), 2);
        }
        LightPropagator p = lamp(1, 11, 0, 0);
        p.set(0, 1, 0, 2);
        due("33: x 11 and the next x 0", p.regions(1), 2);
        p.set(11, 7, 4, 2);
        p.set(11, 0, 5, 2);
        due("33: y 7 and the next y 0", p.regions(1), 4);
    }

    /** Each way around a corner leads back in another direction: to x - 1, y - 1 and z - 1, too. */
    private static void regionsAroundCorners() {
        int[][][] bends = {{{5, 0, 0}, {5, 1, 0}, {4, 1, 0}}, {{5, 0, 0}, {5, 1, 0}, {6, 1, 0}},
            {{5, 1, 0}, {5, 1, 1}, {5, 0, 1}}, {{5, 1, 0}, {5, 1, 1}, {5, 2, 1}},
            {{5, 0, 0}, {5, 0, 1}, {6, 0, 1}, {7, 0, 1}, {7, 0, 0}}};
        for (int[][] bend : bends) {
            LightPropagator p = lamp(1, bend[0][0], bend[0][1], bend[0][2]);
            for (int[] cell : bend) {
                p.set(cell[0], cell[1], cell[2], 2);
            }
            due("33: one around a corner", p.regions(1), 1);
            p.set(bend[1][0], bend[1][1], bend[1][2], 0);
            due("33: two without its corner", p.regions(1), 2);
        }
    }

    private static void regionsOfNothingAndAll() {
        LightPropagator p = night();
        due("33: none", p.regions(1), 0);
        p.setEmission(0, RED, 15);
        due("33: one of all cells", p.regions(15), 1);
        p.setEmission(0, RED, 0);
        p.setEmission(2, RED, 1);
        // Every second cell, as far as 40 edits reach: none of them touches another.
        p.openBatch();
        for (int n = 0; n < 40; n++) {
            p.set(n % 6 * 2 + n / 6 % 2, n / 6, 0, 2);
        }
        p.closeBatch();
        due("33: 40 of one cell each", p.regions(1), 40);
    }

    private static void consistentAlways() {
        LightPropagator p = new LightPropagator();
        due("34: a new one", p.isConsistent(), 1);
        eventful(p);
        due("34: after changes", p.isConsistent(), 1);
        p.read();
        p.undo();
        due("34: after undo", p.isConsistent(), 1);
        p.restore();
        due("34: after restore", p.isConsistent(), 1);
        p.openBatch();
        p.set(4, 4, 4, 0);
        due("34: with an open batch", p.isConsistent(), 1);
        p.closeBatch();
        due("34: with a closed batch", p.isConsistent(), 1);
    }

    private static void histogramOfNothingAndAll() {
        LightPropagator p = new LightPropagator();
        for (int light = 0; light <= 15; light++) {
            due("35: sunlight " + light, p.histogram(SUN, light), light == 15 ? 1152 : 0);
            due("35: red " + light, p.histogram(RED, light), light == 0 ? 1152 : 0);
        }
        p = lamp(15, 0, 0, 0);
        due("35: 15", p.histogram(RED, 15), 1);
        due("35: 14", p.histogram(RED, 14), 3);
        due("35: 13", p.histogram(RED, 13), 6);
    }

    /** "it wraps around": beyond a long after a few cells already. */
    private static void checksumWrapsAround() {
        long sum = 17;
        for (int cell = 0; cell < 1152; cell++) {
            sum = sum * 31 + 8 * 15 * 4096;
        }
        due("36: a new one", new LightPropagator().checksum(), sum);
        due("36: it is a negative one", sum < 0 ? 1 : 0, 1);
        sum = 17;
        for (int cell = 0; cell < 1152; cell++) {
            sum *= 31;
        }
        due("36: without light", night().checksum(), sum);
    }

    /** Type 7 and all lights 15; and the order of the cells, by the first and the last. */
    private static void checksumOfTheGreatest() {
        LightPropagator p = new LightPropagator();
        read(p, "f0,0,0,11,7,11=7;e7,0,15;e7,1,15;e7,2,15");
        long sum = 17;
        for (int cell = 0; cell < 1152; cell++) {
            sum = sum * 31 + 7 + 8 * 65535;
        }
        due("36: all is the greatest", p.checksum(), sum);
        p = night();
        long before = p.checksum();
        p.set(11, 7, 11, 7);
        due("36: the last cell", p.checksum(), before + 7);
        p.set(11, 7, 11, 0);
        p.set(10, 7, 11, 1);
        due("36: the last cell but one", p.checksum(), before + 31);
        p.set(10, 7, 11, 0);
        p.set(11, 6, 11, 1);
        long power = 1;
        for (int n = 0; n < 12; n++) {
            power *= 31;
        }
        due("36: a y less", p.checksum(), before + power);
        p.set(11, 6, 11, 0);
        p.set(11, 7, 10, 1);
        power = 1;
        for (int n = 0; n < 96; n++) {
            power *= 31;
        }
        due("36: a z less", p.checksum(), before + power);
    }
}
