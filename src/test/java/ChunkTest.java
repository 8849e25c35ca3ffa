/** Promises 27 and 28: chunkSum, crossings. */
final class ChunkTest extends Checks {
    public static void main(String[] args) {
        sums();
        crossings();
        crossingsOfSunlight();
        wrong();
        end();
    }

    private static void sums() {
        LightPropagator p = night();
        p.setEmission(2, RED, 1);
        for (int z = 0; z < 12; z++) {
            for (int x = 0; x < 12; x++) {
                p.set(x, 7, z, 2);
                int chunk = 3 * (z / 4) + x / 4;
                due("27: chunk", p.chunkSum(chunk, RED), z % 4 * 4 + x % 4 + 1);
            }
        }
        due("27: another channel", p.chunkSum(0, GREEN), 0);
        p.setEmission(3, BLUE, 1);
        p.set(0, 0, 0, 3);
        p.set(11, 7, 11, 3);
        due("27: the first cell", p.chunkSum(0, BLUE), 1);
        due("27: the last cell", p.chunkSum(8, BLUE), 1);
        p.set(11, 7, 11, 2);
        due("27: sunlight", new LightPropagator().chunkSum(8, SUN), 15 * 128);
        p.setEmission(2, RED, 2);
        due("27: two layers", p.chunkSum(3, RED), 16 * 2 + 16);
    }

    private static void crossings() {
        LightPropagator p = night();
        p.setEmission(2, GREEN, 3);
        p.set(3, 0, 0, 2);
        // The cell beside it, and those above it and at z 1, whose least direction leads over the border.
        due("28: to the right", p.crossings(1, 0, GREEN), 3);
        due("28: back", p.crossings(0, 1, GREEN), 0);
        due("28: another channel", p.crossings(1, 0, RED), 0);
        due("28: a chunk out of reach", p.crossings(3, 0, GREEN), 0);
        p.set(3, 0, 0, 0);
        p.set(4, 0, 4, 2);
        due("28: to the left", p.crossings(3, 4, GREEN), 3);
        due("28: down in z", p.crossings(1, 4, GREEN), 1);
        due("28: by way of another chunk", p.crossings(0, 4, GREEN), 0);
        due("28: the least direction", p.crossings(0, 1, GREEN), 1);
        due("28: not the other one", p.crossings(0, 3, GREEN), 0);
    }

    private static void crossingsOfSunlight() {
        LightPropagator p = new LightPropagator();
        due("28: sunlight from above", p.crossings(4, 1, SUN), 0);
        p.fill(0, 7, 0, 12, 1, 1);
        p.set(3, 7, 3, 0);
        due("28: sunlight to the right", p.crossings(1, 0, SUN), 28);
        due("28: sunlight to the next z", p.crossings(3, 0, SUN), 7);
        due("28: sunlight to the corner by x", p.crossings(4, 3, SUN), 28);
        due("28: sunlight to the corner by z", p.crossings(4, 1, SUN), 0);
        due("28: chunks that do not touch", p.crossings(8, 0, SUN), 0);
    }

    private static void wrong() {
        LightPropagator p = new LightPropagator();
        for (int outside : OUTSIDE) {
            due("27: chunk", p.chunkSum(outside, 0), NO_SUCH_ELEMENT);
            due("27: channel", p.chunkSum(0, outside), NO_SUCH_ELEMENT);
            due("28: chunk", p.crossings(outside, 0, 0), NO_SUCH_ELEMENT);
            due("28: other", p.crossings(0, outside, 0), NO_SUCH_ELEMENT);
            due("28: the same that is none", p.crossings(outside, outside, 0), NO_SUCH_ELEMENT);
            due("28: channel", p.crossings(0, 0, outside), NO_SUCH_ELEMENT);
        }
        due("27: chunk 9", p.chunkSum(9, 0), NO_SUCH_ELEMENT);
        due("27: channel 4", p.chunkSum(0, 4), NO_SUCH_ELEMENT);
        due("28: chunk 9", p.crossings(9, 0, 0), NO_SUCH_ELEMENT);
        due("28: other 9", p.crossings(0, 9, 0), NO_SUCH_ELEMENT);
        due("28: channel 4", p.crossings(0, 1, 4), NO_SUCH_ELEMENT);
        due("28: the same", p.crossings(8, 8, 3), BAD_VALUE);
    }
}
