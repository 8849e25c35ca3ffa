/** "An object is used for at most 512 calls after it has been made": all 512 of them are answered as the model does. */
final class CallsTest extends Checks {
    private static final int CALLS = 512;

    private final String run;
    private final LightPropagator p = new LightPropagator();
    private final Model m = new Model();
    private int calls = 0;

    private CallsTest(String run) {
        this.run = run;
    }

    public static void main(String[] args) {
        sets();
        fillsAndUndos();
        batches();
        texts();
        typesAndCopies();
        refusedCalls();
        questions();
        end();
    }

    private boolean hasRoomFor(int more) {
        return calls + more <= CALLS;
    }

    private void same(String call, long got, long want) {
        calls++;
        due(run + ": call " + calls + ", " + call, got, want);
    }

    /** Undoes what it can with the calls that are left, so that exactly 512 are made. */
    private void undoToTheEnd() {
        while (hasRoomFor(1)) {
            same("undo", p.undo(), m.undo());
        }
        due(run + ": calls", calls, CALLS);
    }

    private static void sets() {
        CallsTest r = new CallsTest("sets");
        r.same("setEmission", r.p.setEmission(2, RED, 9), r.m.setEmission(2, RED, 9));
        while (r.hasRoomFor(8)) {
            int n = r.calls;
            r.same("set", r.p.set(n * 5 % 12, n % 8, n * 7 % 12, n % 3), r.m.set(n * 5 % 12, n % 8, n * 7 % 12, n % 3));
        }
        r.undoToTheEnd();
    }

    private static void fillsAndUndos() {
        CallsTest r = new CallsTest("fills and undos");
        while (r.hasRoomFor(3)) {
            int n = r.calls;
            r.same("fill", r.p.fill(n % 9, n % 5, n % 7, 3, 3, n % 5), r.m.fill(n % 9, n % 5, n % 7, 3, 3, n % 5));
            r.same("effect", r.p.effect(-1), r.m.effect(-1));
            if (n % 3 == 0) {
                r.same("undo", r.p.undo(), r.m.undo());
            }
        }
        r.undoToTheEnd();
    }

    private static void batches() {
        CallsTest r = new CallsTest("batches");
        for (int size = 0; r.hasRoomFor(2); size = (size + 7) % 50) {
            r.same("openBatch", r.p.openBatch(), r.m.openBatch());
            for (int edit = 0; edit < size && r.hasRoomFor(2); edit++) {
                int x = edit % 12;
                int y = edit / 12 + size % 3;
                r.same("set", r.p.set(x, y, size % 12, 1), r.m.set(x, y, size % 12, 1));
            }
            r.same("closeBatch", r.p.closeBatch(), r.m.closeBatch());
        }
        r.undoToTheEnd();
    }

    private static void texts() {
        CallsTest r = new CallsTest("texts");
        String[] texts = {"s1,2,3=4;e4,0,9", "f0,6,0,11,6,11=1", "l1,3,2", "s0,0,0=8", "s0,0,0",
            "f0,0,0,3,7,11=0;e0,1,3"};
        while (r.hasRoomFor(8)) {
            String text = texts[r.calls % texts.length];
            for (int at = 0; at < text.length(); at += 4) {
                int packed = 0;
                for (int i = at; i < Math.min(at + 4, text.length()); i++) {
                    packed = packed << 8 | text.charAt(i);
                }
                r.same("append", r.p.append(packed), r.m.append(packed));
            }
            r.same("read", r.p.read(), r.m.read());
            r.same("faultPosition", r.p.faultPosition(), r.m.faultPosition());
        }
        r.undoToTheEnd();
    }

    private static void typesAndCopies() {
        CallsTest r = new CallsTest("types and copies");
        while (r.hasRoomFor(5)) {
            int n = r.calls;
            r.same("setLoss", r.p.setLoss(n % 8, n % 4, n % 16), r.m.setLoss(n % 8, n % 4, n % 16));
            r.same("setEmission", r.p.setEmission(n % 8, n % 3, n % 15), r.m.setEmission(n % 8, n % 3, n % 15));
            if (n % 5 == 0) {
                r.same("save", r.p.save(), r.m.save());
            }
            if (n % 7 == 0) {
                r.same("restore", r.p.restore(), r.m.restore());
            }
            r.same("checksum", r.p.checksum(), r.m.checksum());
        }
        r.undoToTheEnd();
    }

    private static void refusedCalls() {
        CallsTest r = new CallsTest("refused calls");
        r.same("set", r.p.set(0, 7, 0, 1), r.m.set(0, 7, 0, 1));
        while (r.hasRoomFor(5)) {
            r.same("closeBatch", r.p.closeBatch(), r.m.closeBatch());
            r.same("set", r.p.set(12, 0, 0, 0), r.m.set(12, 0, 0, 0));
            r.same("read", r.p.read(), r.m.read());
        }
        r.same("effect", r.p.effect(-1), 8);
        r.same("undo", r.p.undo(), r.m.undo());
        r.undoToTheEnd();
    }

    private static void questions() {
        CallsTest r = new CallsTest("questions");
        r.same("setEmission", r.p.setEmission(2, RED, 9), r.m.setEmission(2, RED, 9));
        r.same("set", r.p.set(5, 3, 5, 2), r.m.set(5, 3, 5, 2));
        while (r.hasRoomFor(5)) {
            int x = r.calls % 12;
            int y = r.calls % 8;
            int z = r.calls % 11;
            int c = r.calls % 4;
            r.same("lightIf", r.p.lightIf(x, y, z, c, RED), r.m.lightIf(x, y, z, c, RED));
            r.same("spread", r.p.spread(5, 3, 5, c), r.m.spread(5, 3, 5, c));
            r.same("needed", r.p.needed(x, y, z, RED, x), r.m.needed(x, y, z, RED, x));
            r.same("wayLength", r.p.wayLength(x, y, z, c), r.m.wayLength(x, y, z, c));
            r.same("regions", r.p.regions(z), r.m.regions(z));
        }
        r.undoToTheEnd();
    }
}
