/** Promises 9, 10 and 11: append, read, faultPosition. */
final class TextTest extends Checks {
    public static void main(String[] args) {
        appendCharacters();
        appendUntilFull();
        appendWrongly();
        readCommands();
        readBox();
        readTogether();
        readWhileOpen();
        faults();
        refusals();
        boxes();
        end();
    }

    private static void appendCharacters() {
        LightPropagator p = new LightPropagator();
        due("9: nothing", p.append(0), 0);
        due("9: the last byte", p.append('s'), 1);
        due("9: the first byte", p.append('0' << 24), 2);
        due("9: bytes between", p.append(',' << 16 | '1' << 8), 4);
        due("9: four bytes", p.append(',' << 24 | '2' << 16 | '=' << 8 | '3'), 8);
        due("9: nothing more", p.append(0), 8);
        due("9: it is read in order", p.read(), 1);
        due("9: cell", p.type(0, 1, 2), 3);
        due("9: empty again", p.append('!'), 1);
        due("9: the greatest character", p.append('~'), 2);
    }

    private static void appendUntilFull() {
        LightPropagator p = new LightPropagator();
        write(p, "l0,0,0;l0,0,0;l0,0,0;l0,0,0;l0,0,0;l0,0,0;l0,0,0;l00,00,0");
        due("9: 57 characters", p.append(0), 57);
        due("9: 61 would be too many", p.append(0x31313131), FULL);
        due("9: unchanged", p.append(0), 57);
        due("9: a wrong byte before FULL", p.append(0x31313120), BAD_VALUE);
        due("9: 60 are not", p.append(';' << 16 | 'l' << 8 | '0'), 60);
        due("9: one more", p.append('1'), FULL);
        due("9: none more", p.append(0), 60);
        due("9: 60 are read", p.read(), BAD_VALUE);
        due("9: the fault of 60", p.faultPosition(), 60);
        write(p, "f00,00,00,11,07,11=07;f00,00,00,11,07,11=05;s00,00,00=6;l1,1");
        due("9: all 60 again", p.append(0), 60);
        due("9: a text of 60", p.read(), BAD_VALUE);
        due("9: its fault", p.faultPosition(), 60);
    }

    private static void appendWrongly() {
        LightPropagator p = new LightPropagator();
        p.append('s');
        int[] wrong = {1, 32, 127, 128, 255};
        for (int sign : wrong) {
            for (int shift = 0; shift < 32; shift += 8) {
                due("9: byte " + sign + " at " + shift, p.append(sign << shift), BAD_VALUE);
                due("9: byte " + sign + " among others", p.append(0x30303030 & ~(255 << shift) | sign << shift),
                        BAD_VALUE);
            }
        }
        due("9: unchanged", p.append(0), 1);
        due("9: the smallest character", p.append(33), 2);
        due("9: the greatest character", p.append(126), 3);
    }

    private static void readCommands() {
        LightPropagator p = new LightPropagator();
        due("10: s", read(p, "s11,7,0=1"), 1);
        due("10: its type", p.type(11, 7, 0), 1);
        due("10: f of one cell", read(p, "f0,0,0,0,0,0=4"), 1);
        due("10: its type", p.type(0, 0, 0), 4);
        due("10: l", read(p, "l7,3,15"), 1);
        due("10: its loss", p.loss(7, SUN), 15);
        due("10: e", read(p, "e7,2,15"), 1);
        due("10: its emission", p.emission(7, BLUE), 15);
        due("10: zeros at the front", read(p, "s00,07,00=02;l01,03,09"), 2);
        due("10: the cell", p.type(0, 7, 0), 2);
        due("10: the loss", p.loss(1, 3), 9);
        due("10: eight commands", read(p, "l0,0,1;l0,0,2;l0,0,3;e0,0,4;e0,0,5;e0,0,6;e0,0,7;l0,0,8"), 8);
        due("10: the last counts", p.loss(0, 0) * 16 + p.emission(0, 0), 8 * 16 + 7);
        due("11: no fault", p.faultPosition(), NONE);
        due("10: a shorter text", read(p, "e0,0,3"), 1);
        due("10: without the commands of the longer one", p.loss(0, 0) * 16 + p.emission(0, 0), 8 * 16 + 3);
    }

    private static void readTogether() {
        LightPropagator p = night();
        due("10: a lamp", read(p, "e2,0,2;s4,4,4=2"), 2);
        due("10: the effect", p.effect(-1), 7);
        due("10: in their order", read(p, "s4,4,4=0;s8,4,4=2"), 2);
        due("10: the effect together", p.effect(-1), 14);
        due("10: there and back", read(p, "s8,4,4=0;s8,4,4=2"), 2);
        due("10: no effect together", p.effect(-1), 0);
        due("10: f and s", read(p, "f0,0,0,11,7,11=0;s0,0,0=2"), 2);
        due("10: the effect of both", p.effect(-1), 11);
        due("10: undone as a whole", p.undo(), 5);
        due("10: both", p.type(0, 0, 0) * 8 + p.type(8, 4, 4), 2);
        p.set(0, 0, 0, 2);
        due("10: refused", read(p, "s1,1,1=2;s2,2,2=8"), BAD_VALUE);
        due("10: none of them has an effect", p.type(1, 1, 1), 0);
        due("10: the effect stays", p.effect(-1), 4);
        due("10: empty text", p.append(0), 0);
    }

    private static void readWhileOpen() {
        LightPropagator p = new LightPropagator();
        read(p, "s");
        due("11: a fault", p.faultPosition(), 1);
        write(p, "s0,0,0=3");
        p.openBatch();
        due("10: STATE", p.read(), STATE);
        due("11: STATE leaves the fault position", p.faultPosition(), 1);
        due("10: STATE leaves the text", p.append(0), 8);
        p.dropBatch();
        due("10: read then", p.read(), 1);
        due("10: executed then", p.type(0, 0, 0), 3);
        due("11: no fault any more", p.faultPosition(), NONE);
    }

    private static void faults() {
        dueFault("", 0);
        dueFault(";", 0);
        dueFault("x", 0);
        dueFault("S0,0,0=1", 0);
        dueFault("s", 1);
        dueFault("s,", 1);
        dueFault("s-1,0,0=1", 1);
        dueFault("s0", 2);
        dueFault("s0=", 2);
        dueFault("s00", 3);
        dueFault("s000,0,0=1", 3);
        dueFault("s0,", 3);
        dueFault("s0,0,0", 6);
        dueFault("s0,0,0,0=1", 6);
        dueFault("s0,0=1", 4);
        dueFault("s0,0,0=", 7);
        dueFault("s0,0,0=1;", 9);
        dueFault("s0,0,0=001", 9);
        dueFault("s0,0,0=1s0,0,0=1", 8);
        dueFault("s0,0,0=1;;s0,0,0=1", 9);
        dueFault("s0,0,0=1,", 8);
        dueFault("f0,0,0=1", 6);
        dueFault("f0,0,0,1,1,1", 12);
        dueFault("f0,0,0,1,1,1,1", 12);
        dueFault("f0,0,0,1,1,1=", 13);
        dueFault("l0,0", 4);
        dueFault("l0,0=0", 4);
        dueFault("l0,0,", 5);
        dueFault("l0,0,0,", 6);
        dueFault("e0,0=0", 4);
        dueFault("e0,0,0;e", 8);
        dueFault("e0,0,0;x", 7);
        dueFault("s99,0,0=1;s", 11);
        dueFault("s0,0,0=9;s0,0,0=1x", 17);
    }

    private static void readBox() {
        for (int z = 0; z < 12; z++) {
            LightPropagator p = new LightPropagator();
            due("10: f", read(p, "f1,2,3,4,5,6=7"), 1);
            for (int y = 0; y < 8; y++) {
                for (int x = 0; x < 12; x++) {
                    boolean inside = x >= 1 && x <= 4 && y >= 2 && y <= 5 && z >= 3 && z <= 6;
                    due("10: type in a box", p.type(x, y, z), inside ? 7 : 0);
                }
            }
        }
    }

    /** Each of X, Y and Z is compared with its own one alone. */
    private static void boxes() {
        LightPropagator p = new LightPropagator();
        due("10: Y less than x", read(p, "f9,1,2,10,3,4=1"), 1);
        due("10: its last cell", p.type(10, 3, 4), 1);
        due("10: X less than y and z", read(p, "f0,5,9,1,6,11=2"), 1);
        due("10: its last cell", p.type(1, 6, 11), 2);
        due("10: Z less than x and y", read(p, "f7,5,2,8,6,3=4"), 1);
        due("10: its last cell", p.type(8, 6, 3), 4);
        due("10: t less than all", read(p, "f11,7,11,11,7,11=0"), 1);
        due("10: the whole world", read(p, "f0,0,0,11,7,11=7"), 1);
        due("10: its cells", p.save(), 1152);
        due("11: none is refused", p.faultPosition(), NONE);
    }

    private static void refusals() {
        dueFault("s12,0,0=1", 0);
        dueFault("s0,8,0=1", 0);
        dueFault("s0,0,12=1", 0);
        dueFault("s0,0,0=8", 0);
        dueFault("s0,0,0=1;s99,0,0=1", 9);
        dueFault("s0,0,0=1;s0,0,0=9;s0,0,0=8", 9);
        dueFault("f0,0,0,12,0,0=1", 0);
        dueFault("f0,0,0,0,8,0=1", 0);
        dueFault("f0,0,0,0,0,12=1", 0);
        dueFault("f12,0,0,12,0,0=1", 0);
        dueFault("f0,8,0,0,8,0=1", 0);
        dueFault("f0,0,12,0,0,12=1", 0);
        dueFault("f0,0,0,0,0,0=8", 0);
        dueFault("f3,0,0,2,0,0=1", 0);
        dueFault("f0,3,0,0,2,0=1", 0);
        dueFault("f0,0,3,0,0,2=1", 0);
        dueFault("l8,0,0", 0);
        dueFault("l0,4,0", 0);
        dueFault("l0,0,16", 0);
        dueFault("e8,0,0", 0);
        dueFault("e0,3,0", 0);
        dueFault("e0,0,16", 0);
        dueFault("l0,0,1;e0,3,0", 7);
    }
}
