/**
 * World: "The world has the cells (x, y, z) with x and z from 0 to 11 and y, the height, from 0 to 7." One test for
 * each promise that takes a cell, and for each other sentence of "World" that names a boundary.
 */
final class CellBoundaryTest extends Boundaries {
    public static void main(String[] args) {
        setTakesCells();
        setInBatchTakesCells();
        fillTakesCells();
        typeTakesCells();
        lightTakesCells();
        lightsTakesCells();
        originTakesCells();
        wayLengthTakesCells();
        wayEndTakesCells();
        lightIfTakesCells();
        spreadTakesCells();
        neededTakesCells();
        rayTakesCells();
        skyHeightTakesColumns();
        cornersAreTold();
        chunksBeginAndEnd();
        typesAreZeroAtFirst();
        neighborsAsFarAsTheyExist();
        noNeighborsAcrossTheBorder();
        end();
    }

    private static void setTakesCells() {
        dueCells("2: set", 7, (p, x, y, z) -> p.set(x, y, z, 1));
    }

    private static void setInBatchTakesCells() {
        dueCells("2: set in a batch", 7, (p, x, y, z) -> p.openBatch() * p.set(x, y, z, 1));
    }

    private static void fillTakesCells() {
        dueCells("6: fill", 7, (p, x, y, z) -> p.fill(x, y, z, 1, 1, 1));
        dueCells("6: fill of too much", 7, (p, x, y, z) -> p.fill(x, y, z, 13, 9, 1));
    }

    private static void typeTakesCells() {
        dueCells("13: type", 7, LightPropagator::type);
    }

    private static void lightTakesCells() {
        dueCells("16: light", 7, (p, x, y, z) -> p.light(x, y, z, RED));
        dueCells("16: sunlight", 7, (p, x, y, z) -> p.light(x, y, z, SUN));
    }

    private static void lightsTakesCells() {
        dueCells("17: lights", 7, LightPropagator::lights);
    }

    private static void originTakesCells() {
        dueCells("18: origin of nothing", 7, (p, x, y, z) -> p.origin(x, y, z, RED));
        dueCells("18: origin", 7, (p, x, y, z) -> p.origin(x, y, z, SUN));
    }

    private static void wayLengthTakesCells() {
        dueCells("19: wayLength of nothing", 7, (p, x, y, z) -> p.wayLength(x, y, z, RED));
        dueCells("19: wayLength", 7, (p, x, y, z) -> p.wayLength(x, y, z, SUN));
    }

    private static void wayEndTakesCells() {
        dueCells("20: wayEnd of nothing", 7, (p, x, y, z) -> p.wayEnd(x, y, z, RED));
        dueCells("20: wayEnd", 7, (p, x, y, z) -> p.wayEnd(x, y, z, SUN));
    }

    private static void lightIfTakesCells() {
        dueCells("24: lightIf", 7, (p, x, y, z) -> p.lightIf(x, y, z, 1, SUN));
    }

    private static void spreadTakesCells() {
        dueCells("25: spread", 7, (p, x, y, z) -> p.spread(x, y, z, RED));
    }

    /** "or no neighbor above": the greatest y is 6. */
    private static void neededTakesCells() {
        dueCells("26: needed", 6, (p, x, y, z) -> p.needed(x, y, z, RED, 1));
        for (int[] c : CORNERS) {
            due("26: no neighbor above", new LightPropagator().needed(c[0], 7, c[2], RED, 1), NO_SUCH_ELEMENT);
        }
    }

    private static void rayTakesCells() {
        dueCells("31: ray", 7, (p, x, y, z) -> p.ray(x, y, z, 0, RED));
    }

    private static void skyHeightTakesColumns() {
        int[][] columns = {{0, 0}, {11, 0}, {0, 11}, {11, 11}};
        for (int[] c : columns) {
            due("30: column " + c[0] + " " + c[1], new LightPropagator().skyHeight(c[0], c[1]), 0);
        }
        int[][] none = {{-1, 0}, {12, 0}, {0, -1}, {0, 12}, {-1, 11}, {12, 11}, {11, -1}, {11, 12}, {LEAST, 0},
            {GREATEST, 0}, {0, LEAST}, {0, GREATEST}, {0, 44739243}};
        for (int[] c : none) {
            due("30: no column " + c[0] + " " + c[1], new LightPropagator().skyHeight(c[0], c[1]), NO_SUCH_ELEMENT);
        }
    }

    /** All that tells of a cell tells of this one: a lamp that lights its own cell alone. */
    private static void cornersAreTold() {
        for (int[] c : CORNERS) {
            String at = " at " + c[0] + " " + c[1] + " " + c[2];
            int number = number(c[0], c[1], c[2]);
            LightPropagator p = night();
            p.setEmission(2, RED, 1);
            due("2: set" + at, p.set(c[0], c[1], c[2], 2), 1);
            due("13: type" + at, p.type(c[0], c[1], c[2]), 2);
            due("37: the only one" + at, p.save(), 1);
            due("16: light" + at, p.light(c[0], c[1], c[2], RED), 1);
            due("17: lights" + at, p.lights(c[0], c[1], c[2]), 1);
            due("18: origin" + at, p.origin(c[0], c[1], c[2], RED), 6);
            due("19: wayLength" + at, p.wayLength(c[0], c[1], c[2], RED), 0);
            due("20: wayEnd" + at, p.wayEnd(c[0], c[1], c[2], RED), number);
            due("22: effect" + at, p.effect(0), number);
            due("23: effectChunks" + at, p.effectChunks(), 1 << 3 * (c[2] / 4) + c[0] / 4);
            due("24: lightIf" + at, p.lightIf(c[0], c[1], c[2], 0, RED), 0);
            due("25: spread" + at, p.spread(c[0], c[1], c[2], RED), 1);
            due("27: chunkSum" + at, p.chunkSum(3 * (c[2] / 4) + c[0] / 4, RED), 1);
            due("29: dark" + at, p.dark(0), 1151);
            due("32: brightest" + at, p.brightest(RED), number);
            due("33: regions" + at, p.regions(1), 1);
            due("35: histogram" + at, p.histogram(RED, 1), 1);
            due("6: fill" + at, p.fill(c[0], c[1], c[2], 1, 1, 0), 1);
            due("13: type after fill" + at, p.type(c[0], c[1], c[2]), 0);
        }
    }

    /** "A chunk consists of all cells with the same x / 4 and z / 4, rounded down, and has the number 3 * ..." */
    private static void chunksBeginAndEnd() {
        int[] borders = {0, 3, 4, 7, 8, 11};
        int[] parts = {0, 0, 1, 1, 2, 2};
        for (int i = 0; i < 6; i++) {
            for (int k = 0; k < 6; k++) {
                for (int y = 0; y < 8; y += 7) {
                    LightPropagator p = night();
                    p.setEmission(2, GREEN, 1);
                    p.set(borders[i], y, borders[k], 2);
                    int chunk = 3 * parts[k] + parts[i];
                    String at = " of " + borders[i] + " " + y + " " + borders[k];
                    due("23: chunk" + at, p.effectChunks(), 1 << chunk);
                    due("27: chunk" + at, p.chunkSum(chunk, GREEN), 1);
                    due("27: chunk before that" + at, p.chunkSum((chunk + 8) % 9, GREEN), 0);
                    due("27: chunk after that" + at, p.chunkSum((chunk + 1) % 9, GREEN), 0);
                }
            }
        }
    }

    /** "Each cell has a block type; at first it is 0." */
    private static void typesAreZeroAtFirst() {
        due("37: types other than 0", new LightPropagator().save(), 0);
        for (int[] c : CORNERS) {
            due("13: type at first", new LightPropagator().type(c[0], c[1], c[2]), 0);
        }
    }

    /** "The neighbors of a cell are ... as far as they exist": 3 in a corner, 4 at an edge, 5 at a side. */
    private static void neighborsAsFarAsTheyExist() {
        int[] xs = {0, 1, 5, 10, 11};
        int[] ys = {0, 1, 3, 6, 7};
        for (int x : xs) {
            for (int y : ys) {
                for (int z : xs) {
                    int borders = (x % 11 == 0 ? 1 : 0) + (y % 7 == 0 ? 1 : 0) + (z % 11 == 0 ? 1 : 0);
                    LightPropagator p = night();
                    p.setEmission(2, BLUE, 2);
                    due("2: lit from " + x + " " + y + " " + z, p.set(x, y, z, 2), 7 - borders);
                    due("35: neighbors of " + x + " " + y + " " + z, p.histogram(BLUE, 1), 6 - borders);
                }
            }
        }
    }

    /** The cells that come next to a border cell in the order of cells are not its neighbors. */
    private static void noNeighborsAcrossTheBorder() {
        LightPropagator p = night();
        p.setEmission(2, RED, 2);
        p.set(11, 3, 5, 2);
        due("16: x 11 and the next x 0", p.light(0, 4, 5, RED), 0);
        due("16: inside", p.light(10, 3, 5, RED), 1);
        p.set(0, 3, 8, 2);
        due("16: x 0 and the x 11 before", p.light(11, 2, 8, RED), 0);
        p.set(4, 7, 2, 2);
        due("16: y 7 and the next y 0", p.light(4, 0, 3, RED), 0);
        p.set(6, 0, 2, 2);
        due("16: y 0 and the y 7 before", p.light(6, 7, 1, RED), 0);
        p.set(9, 3, 11, 2);
        due("16: z 11 and z 0", p.light(9, 3, 0, RED), 0);
        p.set(2, 3, 0, 2);
        due("16: z 0 and z 11", p.light(2, 3, 11, RED), 0);
    }
}
