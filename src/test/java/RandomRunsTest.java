import java.util.Random;

/** All promises: runs of calls, always the same ones, whose answers a slow and literal model gives, too. */
final class RandomRunsTest extends Checks {
    private static final int RUNS = 100;
    // What an object answers after its 512th call is free; one step of a run makes fewer than 60 calls.
    private static final int CALLS = 512 - 60;
    private static final int KINDS = 37;

    private final Random random;
    private final String run;
    private final LightPropagator p = new LightPropagator();
    private final Model m = new Model();
    private int calls = 0;

    private RandomRunsTest(int seed) {
        random = new Random(seed);
        run = "run " + seed + ", ";
    }

    public static void main(String[] args) {
        for (int seed = 0; seed < RUNS; seed++) {
            new RandomRunsTest(seed).go();
        }
        end();
    }

    private void go() {
        for (int type = 1; type < 6; type++) {
            int channel = random.nextInt(3);
            int strength = random.nextInt(16);
            same("setEmission at first", p.setEmission(type, channel, strength),
                    m.setEmission(type, channel, strength));
        }
        while (calls < CALLS) {
            // Changes come more often than one question alone, so that the questions have something to tell.
            int kind = random.nextInt(KINDS + 16);
            if (kind < 24) {
                changeOne(kind);
            } else if (kind < 34) {
                askOfCell(kind);
            } else {
                askOfAll(kind);
            }
            same("checksum", p.checksum(), m.checksum());
            same("effect", p.effect(-1), m.effect(-1));
        }
        due(run + "calls are at most 512", Math.max(512, calls), 512);
    }

    /** The answers of one call of both. */
    private void same(String call, long got, long want) {
        calls++;
        due(run + "call " + calls + ", " + call, got, want);
    }

    /** Mostly 0 to last, now and then outside. */
    private int any(int last) {
        int kind = random.nextInt(40);
        return kind == 0 ? -1 : kind == 1 ? last + 1 : kind == 2 ? random.nextInt() : random.nextInt(last + 1);
    }

    private int below(int end) {
        return random.nextInt(end);
    }

    private void changeOne(int kind) {
        int x = any(11);
        int y = any(7);
        int z = any(11);
        int t = any(7);
        int v = any(15);
        switch (kind) {
            case 0:
                same("openBatch", p.openBatch(), m.openBatch());
                for (int n = below(50); n > 0; n--) {
                    x = any(11);
                    z = any(11);
                    t = any(7);
                    same("set in batch", p.set(x, y, z, t), m.set(x, y, z, t));
                }
                break;
            case 1:
            case 2:
                same("closeBatch", p.closeBatch(), m.closeBatch());
                break;
            case 3:
                same("dropBatch", p.dropBatch(), m.dropBatch());
                break;
            case 4:
            case 5:
                same("undo", p.undo(), m.undo());
                break;
            case 6:
            case 7:
                int width = random.nextInt(4) == 0 ? any(13) : below(6);
                int height = random.nextInt(4) == 0 ? any(9) : below(4);
                same("fill", p.fill(x, y, z, width, height, t), m.fill(x, y, z, width, height, t));
                break;
            case 8:
                same("fill of a layer", p.fill(0, y, 0, 12, 1, t), m.fill(0, y, 0, 12, 1, t));
                break;
            case 9:
                v = random.nextBoolean() ? any(15) : below(3);
                same("setLoss", p.setLoss(t, v & 3, v), m.setLoss(t, v & 3, v));
                break;
            case 10:
                int channel = any(3);
                same("setLoss", p.setLoss(t, channel, v), m.setLoss(t, channel, v));
                break;
            case 11:
            case 12:
                channel = any(2);
                same("setEmission", p.setEmission(t, channel, v), m.setEmission(t, channel, v));
                break;
            case 13:
            case 14:
            case 15:
                text();
                break;
            case 16:
                same("save", p.save(), m.save());
                break;
            case 17:
                if (below(4) == 0) {
                    same("restore", p.restore(), m.restore());
                }
                break;
            default:
                same("set", p.set(x, y, z, t), m.set(x, y, z, t));
                break;
        }
    }

    private void text() {
        StringBuilder text = new StringBuilder();
        for (int n = 1 + below(4); n > 0; n--) {
            text.append(command()).append(n > 1 ? ";" : "");
        }
        if (below(4) == 0) {
            text.setCharAt(below(text.length()), "sfle,;=0129x!".charAt(below(13)));
        }
        if (below(6) == 0) {
            text.setLength(below(text.length()));
        }
        for (int at = 0; at < text.length();) {
            int packed = 0;
            for (int byteNumber = 0; byteNumber < 4; byteNumber++) {
                boolean skipped = below(5) == 0 || at == text.length();
                packed = packed << 8 | (skipped ? 0 : text.charAt(at));
                at += skipped ? 0 : 1;
            }
            same("append", p.append(packed), m.append(packed));
        }
        if (below(8) == 0) {
            int packed = random.nextInt();
            same("append of anything", p.append(packed), m.append(packed));
        }
        same("read", p.read(), m.read());
        same("faultPosition", p.faultPosition(), m.faultPosition());
    }

    private String command() {
        int last = below(12) == 0 ? 99 : 7;
        int a = below(last + 1);
        switch (below(4)) {
            case 0:
                return "s" + below(12) + "," + a + "," + below(12) + "=" + below(8);
            case 1:
                int x = below(12);
                int z = below(12);
                return "f" + x + "," + a / 2 + "," + z + "," + Math.max(0, x + below(6) - below(2)) + "," + a + ","
                        + (z + below(3)) + "=0" + below(8);
            case 2:
                return "l" + a + "," + below(4) + "," + below(below(4) == 0 ? 17 : 4);
            default:
                return "e" + a + "," + below(3) + "," + below(17);
        }
    }

    private void askOfCell(int kind) {
        int x = any(11);
        int y = any(7);
        int z = any(11);
        int c = any(3);
        switch (kind) {
            case 24:
                same("type", p.type(x, y, z), m.type(x, y, z));
                same("lights", p.lights(x, y, z), m.lights(x, y, z));
                break;
            case 25:
                same("light", p.light(x, y, z, c), m.light(x, y, z, c));
                break;
            case 26:
            case 27:
                for (int i = 0; i < 12; i++) {
                    same("origin", p.origin(i, y, z, c), m.origin(i, y, z, c));
                    same("wayLength", p.wayLength(i, y, z, c), m.wayLength(i, y, z, c));
                    same("wayEnd", p.wayEnd(i, y, z, c), m.wayEnd(i, y, z, c));
                }
                break;
            case 28:
                int t = any(7);
                same("lightIf", p.lightIf(x, y, z, t, c), m.lightIf(x, y, z, t, c));
                break;
            case 29:
            case 30:
                same("spread", p.spread(x, y, z, c), m.spread(x, y, z, c));
                break;
            case 31:
            case 32:
                int wanted = any(15);
                same("needed", p.needed(x, y, z, c, wanted), m.needed(x, y, z, c, wanted));
                break;
            default:
                int d = any(5);
                same("ray", p.ray(x, y, z, d, c), m.ray(x, y, z, d, c));
                break;
        }
    }

    private void askOfAll(int kind) {
        int a = any(15);
        int c = any(3);
        switch (kind) {
            case 34:
                same("dark", p.dark(a), m.dark(a));
                break;
            case 35:
                int x = any(11);
                int z = any(11);
                same("skyHeight", p.skyHeight(x, z), m.skyHeight(x, z));
                break;
            case 36:
                same("brightest", p.brightest(c), m.brightest(c));
                break;
            case 37:
            case 38:
                same("regions", p.regions(a), m.regions(a));
                break;
            case 39:
                same("isConsistent", p.isConsistent(), 1);
                break;
            case 40:
                same("histogram", p.histogram(c, a), m.histogram(c, a));
                break;
            case 41:
                same("effectChunks", p.effectChunks(), m.effectChunks());
                same("batchSize", p.batchSize(), m.batchSize());
                break;
            case 42:
            case 43:
                int index = below(4) == 0 ? random.nextInt() : below(m.effect(-1) + 3) - 2;
                same("effect", p.effect(index), m.effect(index));
                break;
            case 44:
                same("chunkSum", p.chunkSum(a % 10, c), m.chunkSum(a % 10, c));
                break;
            case 45:
            case 46:
                for (int other = 0; other < 10; other++) {
                    same("crossings", p.crossings(a % 10, other, c), m.crossings(a % 10, other, c));
                }
                break;
            default:
                int t = any(7);
                same("loss", p.loss(t, c), m.loss(t, c));
                same("emission", p.emission(t, c), m.emission(t, c));
                break;
        }
    }
}
