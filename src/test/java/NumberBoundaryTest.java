/**
 * The ranges of types, channels, strengths, chunks, directions and levels: the least and the greatest are taken, the
 * numbers just outside, the least int and the greatest int are not.
 */
final class NumberBoundaryTest extends Boundaries {
    public static void main(String[] args) {
        types();
        typesInBatch();
        channels();
        channelsOfColors();
        losses();
        emissions();
        wantedLights();
        levelsOfDark();
        levelsOfRegions();
        lightsOfHistogram();
        chunks();
        directions();
        indexesOfEffect();
        widths();
        heights();
        productsThatWrapAround();
        typesHaveTheirOwnNumbers();
        atFirst();
        end();
    }

    /** "There are 8 block types, numbered from 0." */
    private static void types() {
        dueRange("2: type of set", 0, 7, NO_SUCH_ELEMENT, (p, n) -> p.set(11, 7, 11, n));
        dueRange("6: type of fill", 0, 7, NO_SUCH_ELEMENT, (p, n) -> p.fill(0, 0, 0, 12, 8, n));
        dueRange("7: type of setLoss", 0, 7, NO_SUCH_ELEMENT, (p, n) -> p.setLoss(n, SUN, 15));
        dueRange("8: type of setEmission", 0, 7, NO_SUCH_ELEMENT, (p, n) -> p.setEmission(n, BLUE, 15));
        dueRange("14: type of loss", 0, 7, NO_SUCH_ELEMENT, (p, n) -> p.loss(n, SUN));
        dueRange("15: type of emission", 0, 7, NO_SUCH_ELEMENT, (p, n) -> p.emission(n, BLUE));
        dueRange("24: type of lightIf", 0, 7, NO_SUCH_ELEMENT, (p, n) -> p.lightIf(0, 0, 0, n, RED));
    }

    private static void typesInBatch() {
        dueRange("2: type of set in a batch", 0, 7, NO_SUCH_ELEMENT, (p, n) -> p.openBatch() * p.set(0, 0, 0, n));
    }

    /** "for each of the channels 0 red, 1 green, 2 blue and 3 sunlight" */
    private static void channels() {
        dueRange("7: channel of setLoss", 0, 3, NO_SUCH_ELEMENT, (p, n) -> p.setLoss(7, n, 15));
        dueRange("14: channel of loss", 0, 3, NO_SUCH_ELEMENT, (p, n) -> p.loss(7, n));
        dueRange("14: channel of the first loss", 0, 3, NO_SUCH_ELEMENT, (p, n) -> p.loss(0, n));
        dueRange("16: channel of light", 0, 3, NO_SUCH_ELEMENT, (p, n) -> p.light(11, 7, 11, n));
        dueRange("18: channel of origin", 0, 3, NO_SUCH_ELEMENT, (p, n) -> p.origin(11, 7, 11, n));
        dueRange("19: channel of wayLength", 0, 3, NO_SUCH_ELEMENT, (p, n) -> p.wayLength(11, 7, 11, n));
        dueRange("20: channel of wayEnd", 0, 3, NO_SUCH_ELEMENT, (p, n) -> p.wayEnd(11, 7, 11, n));
        dueRange("24: channel of lightIf", 0, 3, NO_SUCH_ELEMENT, (p, n) -> p.lightIf(0, 0, 0, 1, n));
        dueRange("27: channel of chunkSum", 0, 3, NO_SUCH_ELEMENT, (p, n) -> p.chunkSum(8, n));
        dueRange("28: channel of crossings", 0, 3, NO_SUCH_ELEMENT, (p, n) -> p.crossings(7, 8, n));
        dueRange("31: channel of ray", 0, 3, NO_SUCH_ELEMENT, (p, n) -> p.ray(0, 0, 0, 1, n));
        dueRange("31: channel of a ray to no cell", 0, 3, NO_SUCH_ELEMENT, (p, n) -> p.ray(0, 0, 0, 0, n));
        dueRange("32: channel of brightest", 0, 3, NO_SUCH_ELEMENT, LightPropagator::brightest);
        dueRange("35: channel of histogram", 0, 3, NO_SUCH_ELEMENT, (p, n) -> p.histogram(n, 0));
    }

    /** "for each of the channels 0 to 2 an emission": sunlight, 3, has none. */
    private static void channelsOfColors() {
        dueRange("8: channel of setEmission", 0, 2, NO_SUCH_ELEMENT, (p, n) -> p.setEmission(0, n, 0));
        dueRange("15: channel of emission", 0, 2, NO_SUCH_ELEMENT, (p, n) -> p.emission(0, n));
        dueRange("25: channel of spread", 0, 2, NO_SUCH_ELEMENT, (p, n) -> p.spread(0, 0, 0, n));
        dueRange("26: channel of needed", 0, 2, NO_SUCH_ELEMENT, (p, n) -> p.needed(0, 0, 0, n, 0));
    }

    /** "a loss from 0 to 15" */
    private static void losses() {
        dueRange("7: loss", 0, 15, BAD_VALUE, (p, n) -> p.setLoss(0, RED, n));
        LightPropagator p = new LightPropagator();
        p.setLoss(7, SUN, 15);
        due("14: the greatest loss", p.loss(7, SUN), 15);
        p.setLoss(7, SUN, 0);
        due("14: the least loss", p.loss(7, SUN), 0);
    }

    /** "an emission from 0 to 15" */
    private static void emissions() {
        dueRange("8: emission", 0, 15, BAD_VALUE, (p, n) -> p.setEmission(0, RED, n));
        LightPropagator p = new LightPropagator();
        p.setEmission(7, BLUE, 15);
        due("15: the greatest emission", p.emission(7, BLUE), 15);
        p.setEmission(7, BLUE, 0);
        due("15: the least emission", p.emission(7, BLUE), 0);
    }

    private static void wantedLights() {
        dueRange("26: wanted", 0, 15, BAD_VALUE, (p, n) -> p.needed(0, 0, 0, RED, n));
    }

    private static void levelsOfDark() {
        dueRange("29: level", 0, 15, BAD_VALUE, LightPropagator::dark);
    }

    private static void levelsOfRegions() {
        dueRange("33: level", 1, 15, BAD_VALUE, LightPropagator::regions);
    }

    private static void lightsOfHistogram() {
        dueRange("35: light", 0, 15, BAD_VALUE, (p, n) -> p.histogram(SUN, n));
    }

    private static void chunks() {
        dueRange("27: chunk", 0, 8, NO_SUCH_ELEMENT, (p, n) -> p.chunkSum(n, SUN));
        dueRange("28: chunk", 0, 8, NO_SUCH_ELEMENT, (p, n) -> p.crossings(n, 4, SUN));
        dueRange("28: other", 0, 8, NO_SUCH_ELEMENT, (p, n) -> p.crossings(4, n, SUN));
        dueRange("28: both", 0, 8, NO_SUCH_ELEMENT, (p, n) -> p.crossings(n, n, SUN));
    }

    /** "these are the directions 0 to 5" */
    private static void directions() {
        dueRange("31: direction", 0, 5, NO_SUCH_ELEMENT, (p, n) -> p.ray(5, 3, 5, n, RED));
        dueRange("31: direction of sunlight", 0, 5, NO_SUCH_ELEMENT, (p, n) -> p.ray(5, 3, 5, n, SUN));
    }

    /** "the index, from 0, or -1 for the number of cells": all that is greater is taken, too. */
    private static void indexesOfEffect() {
        LightPropagator p = new LightPropagator();
        p.set(0, 0, 0, 1);
        due("22: -1", p.effect(-1), 1);
        due("22: 0", p.effect(0), 0);
        due("22: -2", p.effect(-2), BAD_VALUE);
        due("22: the least int", p.effect(LEAST), BAD_VALUE);
        due("22: 1", p.effect(1), NONE);
        due("22: the greatest int", p.effect(GREATEST), NONE);
    }

    /** "the width in both directions, 1 to 12" */
    private static void widths() {
        dueRange("6: width", 1, 12, BAD_VALUE, (p, n) -> p.fill(0, 0, 0, n, 1, 1));
        dueRange("6: width from x 11", 1, 1, BAD_VALUE, (p, n) -> p.fill(11, 0, 0, n, 1, 1));
        dueRange("6: width from z 11", 1, 1, BAD_VALUE, (p, n) -> p.fill(0, 0, 11, n, 1, 1));
        dueRange("6: width from x 4", 1, 8, BAD_VALUE, (p, n) -> p.fill(4, 0, 0, n, 8, 1));
        dueRange("6: width from z 4", 1, 8, BAD_VALUE, (p, n) -> p.fill(0, 0, 4, n, 8, 1));
        dueRange("6: width from x 3 and z 9", 1, 3, BAD_VALUE, (p, n) -> p.fill(3, 7, 9, n, 1, 1));
    }

    /** "the height, 1 to 8" */
    private static void heights() {
        dueRange("6: height", 1, 8, BAD_VALUE, (p, n) -> p.fill(0, 0, 0, 1, n, 1));
        dueRange("6: height from y 7", 1, 1, BAD_VALUE, (p, n) -> p.fill(0, 7, 0, 1, n, 1));
        dueRange("6: height from y 3", 1, 5, BAD_VALUE, (p, n) -> p.fill(0, 3, 0, 12, n, 1));
    }

    /** Numbers whose products with 4, 8 or 16 wrap around to 0. */
    private static void productsThatWrapAround() {
        LightPropagator p = new LightPropagator();
        for (int shift = 28; shift <= 31; shift++) {
            int n = 1 << shift;
            due("14: type " + n, p.loss(n, 0), NO_SUCH_ELEMENT);
            due("15: type " + n, p.emission(n, 0), NO_SUCH_ELEMENT);
            due("7: type " + n, p.setLoss(n, 0, 1), NO_SUCH_ELEMENT);
            due("8: type " + n, p.setEmission(n, 0, 1), NO_SUCH_ELEMENT);
            due("27: chunk " + n, p.chunkSum(n, 0), NO_SUCH_ELEMENT);
            due("31: direction " + n, p.ray(0, 0, 0, n, 0), NO_SUCH_ELEMENT);
        }
        // A careless index of type and channel would find another type's number.
        due("14: type 0 channel 7", p.loss(0, 7), NO_SUCH_ELEMENT);
        due("14: type 2 channel -1", p.loss(2, -1), NO_SUCH_ELEMENT);
        due("14: type -1 channel 4", p.loss(-1, 4), NO_SUCH_ELEMENT);
        due("14: type 8 channel -1", p.loss(8, -1), NO_SUCH_ELEMENT);
    }

    /** Each type has its own loss in each channel: the first, the last and those beside one another. */
    private static void typesHaveTheirOwnNumbers() {
        for (int type = 0; type < 8; type++) {
            for (int channel = 0; channel < 4; channel++) {
                LightPropagator p = new LightPropagator();
                p.setLoss(type, channel, 7);
                for (int other = 0; other < 32; other++) {
                    due("7: loss " + type + " " + channel + " and " + other, p.loss(other / 4, other % 4),
                            other == type * 4 + channel ? 7 : other / 4 == 1 ? 15 : 0);
                }
                if (channel < 3) {
                    p.setEmission(type, channel, 9);
                    for (int other = 0; other < 24; other++) {
                        due("8: emission " + type + " " + channel + " and " + other,
                                p.emission(other / 3, other % 3), other == type * 3 + channel ? 9 : 0);
                    }
                }
            }
        }
    }

    /** "At first, all are 0, except that type 1 has the losses 15, 15, 15 and 15." */
    private static void atFirst() {
        LightPropagator p = new LightPropagator();
        for (int channel = 0; channel < 4; channel++) {
            due("1: loss of type 0", p.loss(0, channel), 0);
            due("1: loss of type 1", p.loss(1, channel), 15);
            due("1: loss of type 2", p.loss(2, channel), 0);
            due("1: loss of type 7", p.loss(7, channel), 0);
        }
        for (int channel = 0; channel < 3; channel++) {
            due("1: emission of type 0", p.emission(0, channel), 0);
            due("1: emission of type 1", p.emission(1, channel), 0);
            due("1: emission of type 7", p.emission(7, channel), 0);
        }
    }
}
