/** Each sentence of "Texts" and "Details", and of promises 9 to 11, that names a boundary. */
final class TextBoundaryTest extends Boundaries {
    private static final String SIXTY = "l00,0,1;l01,0,2;l02,0,3;l03,0,4;l04,0,5;e5,0,6;e6,0,7;e7,0,8";

    public static void main(String[] args) {
        appendNothing();
        appendEachPlaceOfAByte();
        appendLeastAndGreatestCharacter();
        appendWrongBytes();
        appendSixtyCharacters();
        appendMoreThanSixty();
        appendFullAndWrong();
        appendTooManyAtOnce();
        emptyText();
        oneCommand();
        sixtyCharactersWithEightCommands();
        sixtyCharactersThatEndTooEarly();
        numbersOfOneAndTwoDigits();
        faultAtEachCharacter();
        endAtEachCharacter();
        charactersThatBegin();
        charactersThatGoOn();
        semicolons();
        faultBehindARefusedCommand();
        rangesOfSet();
        rangesOfFill();
        rangesOfLoss();
        rangesOfEmission();
        boxesOfOneCell();
        boxesThatAreTurned();
        firstRefusedCommand();
        refusedTextChangesNothing();
        textIsEmptyAfterwards();
        textWaitsForTheBatch();
        faultPositionOfNothing();
        faultPositionOfTheLatest();
        textIsOneChange();
        effectIsThatOfAll();
        end();
    }

    private static void dueRead(String text, int commands) {
        LightPropagator p = new LightPropagator();
        due("10: read of \"" + text + "\"", read(p, text), commands);
        due("11: no fault of \"" + text + "\"", p.faultPosition(), NONE);
        due("9: length after \"" + text + "\"", p.append(0), 0);
        due("12: one change by \"" + text + "\"", p.undo(), 0);
    }

    /** "where bytes that are 0 are skipped" */
    private static void appendNothing() {
        LightPropagator p = new LightPropagator();
        due("9: nothing to an empty text", p.append(0), 0);
        write(p, "s0,0,0=1");
        due("9: nothing to a text", p.append(0), 8);
    }

    /** "from the most significant one to the least significant one" */
    private static void appendEachPlaceOfAByte() {
        for (int zeros = 0; zeros < 16; zeros++) {
            LightPropagator p = new LightPropagator();
            String text = "e3,2";
            int packed = 0;
            StringBuilder left = new StringBuilder();
            for (int place = 0; place < 4; place++) {
                boolean skipped = (zeros >> place & 1) == 1;
                packed = packed << 8 | (skipped ? 0 : text.charAt(left.length()));
                left.append(skipped ? "" : text.charAt(left.length()));
            }
            due("9: zeros " + zeros, p.append(packed), left.length());
            write(p, "e3,2,14".substring(left.length()));
            due("10: read with zeros " + zeros, p.read(), 1);
            due("15: emission with zeros " + zeros, p.emission(3, BLUE), 14);
        }
    }

    /** "BAD_VALUE if a byte that is not 0 is not from 33 to 126": these two are taken, at each place. */
    private static void appendLeastAndGreatestCharacter() {
        for (int shift = 0; shift < 32; shift += 8) {
            LightPropagator p = new LightPropagator();
            due("9: 33 at " + shift, p.append(33 << shift), 1);
            due("9: 126 at " + shift, p.append(126 << shift), 2);
        }
        LightPropagator p = new LightPropagator();
        due("9: four of 33", p.append(0x21212121), 4);
        due("9: four of 126", p.append(0x7e7e7e7e), 8);
    }

    private static void appendWrongBytes() {
        for (int wrong : new int[] {1, 31, 32, 127, 128, 129, 254, 255}) {
            for (int shift = 0; shift < 32; shift += 8) {
                int alone = wrong << shift;
                int among = 0x73302c30 & ~(255 << shift) | wrong << shift;
                dueRefused("9: byte " + wrong + " at " + shift, Boundaries::newOne, BAD_VALUE, p -> p.append(alone));
                dueRefused("9: byte " + wrong + " among others at " + shift, Boundaries::eventful, BAD_VALUE,
                        p -> p.append(among));
            }
        }
        for (int wrong : new int[] {LEAST, GREATEST, -1, 1, 32, 127}) {
            dueRefused("9: " + wrong, Boundaries::eventful, BAD_VALUE, p -> p.append(wrong));
        }
    }

    /** "FULL if it would have more than 60 characters": 60 are taken, by one, two, three or four. */
    private static void appendSixtyCharacters() {
        for (int last = 1; last <= 4; last++) {
            LightPropagator p = new LightPropagator();
            write(p, SIXTY.substring(0, 60 - last));
            int packed = 0;
            for (int i = 60 - last; i < 60; i++) {
                packed = packed << 8 | SIXTY.charAt(i);
            }
            due("9: without the last " + last, p.append(0), 60 - last);
            due("9: the last " + last, p.append(packed), 60);
            due("9: nothing more", p.append(0), 60);
            due("10: all of them", p.read(), 8);
        }
    }

    private static void appendMoreThanSixty() {
        Setup sixty = p -> write(p, SIXTY);
        dueRefused("9: the 61st", sixty, FULL, p -> p.append('1'));
        dueRefused("9: the 61st at the front", sixty, FULL, p -> p.append('1' << 24));
        dueRefused("9: four more", sixty, FULL, p -> p.append(0x31313131));
        for (int room = 1; room <= 3; room++) {
            String most = SIXTY.substring(0, 60 - room);
            int oneTooMany = 0x31313131 >>> 8 * (3 - room);
            dueRefused("9: one too many for " + room, p -> write(p, most), FULL, p -> p.append(oneTooMany));
        }
        dueRefused("9: in an open batch", p -> {
            write(p, SIXTY);
            p.openBatch();
        }, FULL, p -> p.append('1'));
    }

    /** "BAD_VALUE ... (checked first); FULL" */
    private static void appendFullAndWrong() {
        Setup sixty = p -> write(p, SIXTY);
        for (int shift = 0; shift < 32; shift += 8) {
            int packed = 0x31313131 & ~(255 << shift) | 32 << shift;
            dueRefused("9: a blank at " + shift + " of too many", sixty, BAD_VALUE, p -> p.append(packed));
        }
        dueRefused("9: a blank alone", sixty, BAD_VALUE, p -> p.append(32));
        dueRefused("9: a greatest int", sixty, BAD_VALUE, p -> p.append(GREATEST));
        dueRefused("9: a least int", sixty, BAD_VALUE, p -> p.append(LEAST));
    }

    /** If there is room for some of the characters only, none of them is appended. */
    private static void appendTooManyAtOnce() {
        LightPropagator p = new LightPropagator();
        write(p, SIXTY.substring(0, 58));
        due("9: three", p.append(0x303030), FULL);
        due("9: none of them", p.append(0), 58);
        due("9: two", p.append(',' << 8 | '8'), 60);
        due("10: the text", p.read(), 8);
    }

    /** "an empty text has a fault at 0" */
    private static void emptyText() {
        dueFault("", 0);
        LightPropagator p = new LightPropagator();
        read(p, "s0,0,0=1");
        due("10: empty after a good one", p.read(), BAD_VALUE);
        due("11: its fault", p.faultPosition(), 0);
        due("13: nothing is executed again", p.undo(), 0);
    }

    /** "A text consists of one or more commands" */
    private static void oneCommand() {
        dueRead("s0,0,0=0", 1);
        dueRead("f0,0,0,0,0,0=0", 1);
        dueRead("l0,0,0", 1);
        dueRead("e0,0,0", 1);
        dueRead("l0,0,0;l0,0,0", 2);
    }

    /** The longest text, with as many commands as there can be. */
    private static void sixtyCharactersWithEightCommands() {
        LightPropagator p = new LightPropagator();
        due("10: 60 characters", read(p, SIXTY), 8);
        for (int type = 0; type < 5; type++) {
            due("10: loss of " + type, p.loss(type, RED), type + 1);
        }
        for (int type = 5; type < 8; type++) {
            due("10: emission of " + type, p.emission(type, RED), type + 1);
        }
        due("12: one change", p.undo(), 0);
        due("12: undone as a whole", p.loss(0, RED) + p.emission(7, RED), 0);
        dueRead("f00,00,00,11,07,11=07;f00,00,00,11,07,11=05;s00,00,00=6", 3);
        dueRead("f00,00,00,11,7,11=7;f0,0,00,11,07,11=05;s0,0,0=6;s11,7,11=0", 4);
    }

    private static void sixtyCharactersThatEndTooEarly() {
        dueFault("l00,0,1;l01,0,2;l02,0,3;l03,0,4;l04,0,5;l05,0,6;e6,0,7;e7,0,", 60);
        dueFault("l00,0,1;l01,0,2;l02,0,3;l03,0,4;l04,0,5;l05,0,6;e06,0,7;e07,", 60);
        dueFault("l00,0,1;l01,0,2;l02,0,3;l03,0,4;l04,0,5;e05,0,6;e6,0,7;e7,00", 60);
        dueFault("l00,0,1;l01,0,2;l02,0,3;l03,0,4;l04,0,5;e05,0,6;e6,0,7;s1,00", 60);
        dueFault("l00,0,1;l01,0,2;l02,0,3;l03,0,4;l04,0,5;e5,0,6;e06,0,7;e0,0;", 59);
        dueFault("l00,0,1;l01,0,2;l02,0,3;l03,0,4;l04,0,5;e5,0,6;e06,0,7;l0,0x", 59);
        dueFault("l00,0,1;l01,0,2;l02,0,3;l03,0,4;l04,0,5;l05,0,6;e06,00,07;e1", 60);
        dueFault("l00,0,1;l01,0,2;l02,0,3;l03,0,4;l04,0,5;l05,0,6;e06,00,007;e", 57);
    }

    /** "where all numbers have one or two digits", and "Numbers in texts can have zeros at the front." */
    private static void numbersOfOneAndTwoDigits() {
        dueRead("s00,00,00=00", 1);
        dueRead("f00,00,00,00,00,00=00", 1);
        dueRead("l00,00,00", 1);
        dueRead("e00,00,00", 1);
        LightPropagator p = new LightPropagator();
        read(p, "s01,2,03=04;l5,02,7;e06,1,09;s11,07,10=7");
        due("13: 1 2 3", p.type(1, 2, 3), 4);
        due("14: 5 2", p.loss(5, BLUE), 7);
        due("15: 6 1", p.emission(6, GREEN), 9);
        due("13: 11 7 10", p.type(11, 7, 10), 7);
        int[][] thirds = {{0, 3}, {1, 5}, {2, 7}, {3, 9}};
        for (int[] third : thirds) {
            String[] numbers = {"0", "0", "0", "0"};
            numbers[third[0]] = "000";
            dueFault("s" + numbers[0] + "," + numbers[1] + "," + numbers[2] + "=" + numbers[3], third[1]);
        }
        dueFault("l000,0,0", 3);
        dueFault("l0,000,0", 5);
        dueFault("l0,0,000", 7);
        dueFault("e00,00,000", 9);
        dueFault("f0,0,0,0,0,0=000", 15);
        dueFault("f0,0,0,0,0,000=0", 13);
    }

    private static final String[] TEXTS = {"s01,02,03=04", "f01,02,03,04,05,06=07", "l01,02,03", "e01,02,03",
        "s1,2,3=4;l1,2,3;e1,2,3;f1,2,3,4,5,6=7"};

    /** "the index of the first character that cannot continue a text", at each index. */
    private static void faultAtEachCharacter() {
        for (String text : TEXTS) {
            for (int at = 0; at < text.length(); at++) {
                dueFault(text.substring(0, at) + "!" + text.substring(at + 1), at);
                dueFault(text.substring(0, at) + "~", at);
            }
        }
    }

    /** "or the length of the text if it ends too early", at each length. */
    private static void endAtEachCharacter() {
        for (String text : TEXTS) {
            for (int length = 0; length < text.length(); length++) {
                String begin = text.substring(0, length);
                if (begin.matches("(.*;)?([sf][^;]*=|[le][^,;]*,[^,;]*,)\\d")) {
                    dueRead(begin, begin.split(";").length);
                } else {
                    dueFault(begin, length);
                }
            }
        }
    }

    /** Of all characters, s, f, l and e alone begin a command. */
    private static void charactersThatBegin() {
        for (char sign = 33; sign <= 126; sign++) {
            boolean begins = sign == 's' || sign == 'f' || sign == 'l' || sign == 'e';
            dueFault("" + sign, begins ? 1 : 0);
            dueFault("e0,0,0;" + sign, begins ? 8 : 7);
        }
    }

    /** Of all characters, a digit alone goes on with a number, and "," or "=" or ";" follows as it must. */
    private static void charactersThatGoOn() {
        for (char sign = 33; sign <= 126; sign++) {
            boolean digit = sign >= '0' && sign <= '9';
            dueFault("s" + sign, digit ? 2 : 1);
            dueFault("s0" + sign, digit || sign == ',' ? 3 : 2);
            dueFault("s00" + sign, sign == ',' ? 4 : 3);
            dueFault("s0,0,0" + sign, digit || sign == '=' ? 7 : 6);
            dueFault("s0,0,00" + sign, sign == '=' ? 8 : 7);
            dueFault("f0,0,0" + sign, digit || sign == ',' ? 7 : 6);
            dueFault("f0,0,0,0,0,0" + sign, digit || sign == '=' ? 13 : 12);
            dueFault("l0,0" + sign, digit || sign == ',' ? 5 : 4);
            dueFault("e0,0" + sign, digit || sign == ',' ? 5 : 4);
            dueFault("e0,0,00" + sign, sign == ';' ? 8 : 7);
            if (!digit) {
                dueFault("s0,0,0=0" + sign, sign == ';' ? 9 : 8);
            }
        }
    }

    /** "with a ";" between two of them" */
    private static void semicolons() {
        dueFault(";", 0);
        dueFault(";l0,0,0", 0);
        dueFault("l0,0,0;", 7);
        dueFault("l0,0,0;;", 7);
        dueFault("l0,0,0;;l0,0,0", 7);
        dueFault("l0,0,0l0,0,0", 6);
        dueFault("l0,0,0,l0,0,0", 6);
        dueRead("l0,0,0;l0,0,0", 2);
    }

    /** "If a text has a fault anywhere, its position is told, even if a command before it would be refused" */
    private static void faultBehindARefusedCommand() {
        dueFault("s12,0,0=0;", 10);
        dueFault("s0,8,0=0;x", 9);
        dueFault("e0,3,0;l0,0", 11);
        dueFault("f1,0,0,0,0,0=0;s0,0,0=0x", 23);
        dueFault("l8,0,0;l0,0,0;l0,0,000", 21);
    }

    /** "A command is refused if one of its numbers is out of range" */
    private static void rangesOfSet() {
        for (String taken : new String[] {"s0,0,0=0", "s11,0,0=0", "s0,7,0=0", "s0,0,11=0", "s0,0,0=7", "s11,7,11=7"}) {
            dueRead(taken, 1);
        }
        for (String out : new String[] {"s12,0,0=0", "s99,0,0=0", "s0,8,0=0", "s0,99,0=0", "s0,0,12=0", "s0,0,99=0",
            "s0,0,0=8", "s0,0,0=99", "s12,7,11=7", "s11,8,11=7", "s11,7,12=7", "s11,7,11=8"}) {
            dueFault(out, 0);
            dueFault("l0,0,0;" + out, 7);
        }
    }

    private static void rangesOfFill() {
        for (String taken : new String[] {"f0,0,0,0,0,0=0", "f11,7,11,11,7,11=7", "f0,0,0,11,7,11=7",
            "f0,0,0,11,0,0=1", "f0,0,0,0,7,0=1", "f0,0,0,0,0,11=1"}) {
            dueRead(taken, 1);
        }
        for (String out : new String[] {"f12,0,0,12,0,0=0", "f0,8,0,0,8,0=0", "f0,0,12,0,0,12=0", "f0,0,0,12,7,11=0",
            "f0,0,0,11,8,11=0", "f0,0,0,11,7,12=0", "f0,0,0,0,0,0=8", "f0,0,0,99,0,0=0", "f0,0,0,0,99,0=0",
            "f0,0,0,0,0,99=0", "f0,0,0,0,0,0=99", "f99,0,0,99,0,0=0", "f0,99,0,0,99,0=0", "f0,0,99,0,0,99=0",
            "f12,0,0,11,0,0=0", "f0,8,0,0,7,0=0", "f0,0,12,0,0,11=0"}) {
            dueFault(out, 0);
            dueFault("l0,0,0;" + out, 7);
        }
    }

    private static void rangesOfLoss() {
        for (String taken : new String[] {"l0,0,0", "l7,0,0", "l0,3,0", "l0,0,15", "l7,3,15"}) {
            dueRead(taken, 1);
        }
        for (String out : new String[] {"l8,0,0", "l99,0,0", "l0,4,0", "l0,99,0", "l0,0,16", "l0,0,99", "l8,3,15",
            "l7,4,15", "l7,3,16"}) {
            dueFault(out, 0);
            dueFault("l0,0,0;" + out, 7);
        }
    }

    private static void rangesOfEmission() {
        for (String taken : new String[] {"e0,0,0", "e7,0,0", "e0,2,0", "e0,0,15", "e7,2,15"}) {
            dueRead(taken, 1);
        }
        for (String out : new String[] {"e8,0,0", "e99,0,0", "e0,3,0", "e0,99,0", "e0,0,16", "e0,0,99", "e8,2,15",
            "e7,3,15", "e7,2,16"}) {
            dueFault(out, 0);
            dueFault("l0,0,0;" + out, 7);
        }
    }

    /** X, Y and Z can be x, y and z: then it is one cell. */
    private static void boxesOfOneCell() {
        for (int[] c : CORNERS) {
            LightPropagator p = new LightPropagator();
            String corner = c[0] + "," + c[1] + "," + c[2];
            due("10: f of one cell", read(p, "f" + corner + "," + corner + "=5"), 1);
            due("13: the cell", p.type(c[0], c[1], c[2]), 5);
            due("37: no other", p.save(), 1);
        }
        LightPropagator p = new LightPropagator();
        read(p, "f0,0,0,11,7,11=3");
        due("37: all cells", p.save(), 1152);
        read(p, "f1,1,1,10,6,10=0");
        due("37: all but the inner ones", p.save(), 1152 - 600);
    }

    /** "or if X, Y or Z is less than x, y or z": by one, and by all. */
    private static void boxesThatAreTurned() {
        for (String turned : new String[] {"f1,0,0,0,0,0=0", "f0,1,0,0,0,0=0", "f0,0,1,0,0,0=0", "f11,7,11,10,7,11=0",
            "f11,7,11,11,6,11=0", "f11,7,11,11,7,10=0", "f11,0,0,0,7,11=0", "f0,7,0,11,0,11=0", "f0,0,11,11,7,0=0"}) {
            dueFault(turned, 0);
            dueFault("e0,0,0;" + turned, 7);
        }
    }

    /** "or the index of the first character of the first command that was refused" */
    private static void firstRefusedCommand() {
        dueFault("l8,0,0;l8,0,0", 0);
        dueFault("l0,0,0;l8,0,0;l8,0,0", 7);
        dueFault("l0,0,0;s0,0,0=1;e0,3,0", 16);
        dueFault("l00,0,1;l01,0,2;l02,0,3;l03,0,4;l04,0,5;e5,0,6;e6,0,7;e8,0,8", 54);
    }

    /** "If a command is refused, none of them has an effect." */
    private static void refusedTextChangesNothing() {
        String[] commands = {"s0,0,0=1;", "f0,0,0,3,3,3=2;", "l0,0,9;", "e0,0,9;", "s5,5,5=1;l1,3,0;e3,1,4;"};
        for (String first : commands) {
            LightPropagator p = new LightPropagator();
            eventful(p);
            p.read();
            long before = p.checksum();
            int losses = p.loss(0, RED) + p.loss(1, SUN);
            due("10: refused after " + first, read(p, first + "l0,0,16"), BAD_VALUE);
            due("36: after " + first, p.checksum(), before);
            due("14: after " + first, p.loss(0, RED) + p.loss(1, SUN), losses);
            due("15: after " + first, p.emission(0, RED) + p.emission(3, GREEN), 0);
            // A lamp of 3 lights 25 cells, but three of them would be at -1.
            due("22: the effect stays after " + first, p.effect(-1), 22);
            due("12: no change after " + first, p.undo(), 4);
        }
    }

    /** "The text is empty afterwards": after commands, after a fault and after a refusal. */
    private static void textIsEmptyAfterwards() {
        for (String text : new String[] {"s0,0,0=1", "s0,0,0=", "s0,0,0=8", "x", SIXTY}) {
            LightPropagator p = new LightPropagator();
            read(p, text);
            due("9: empty after \"" + text + "\"", p.append(0), 0);
            due("9: room for four", p.append(0x6c302c30), 4);
            write(p, ",9");
            due("10: the next one is read alone", p.read(), 1);
            due("14: its loss", p.loss(0, RED), 9);
        }
    }

    /** "unless a batch is open", and "a read that returns STATE leaves the fault position" */
    private static void textWaitsForTheBatch() {
        for (String text : new String[] {"", "x", "s0,0,0=8", "s0,0,0=1", SIXTY}) {
            dueRefused("10: STATE with \"" + text + "\"", p -> {
                write(p, text);
                p.openBatch();
            }, STATE, LightPropagator::read);
            dueRefused("10: STATE with an edit and \"" + text + "\"", p -> {
                read(p, "s0,0,0=1;s0,0");
                write(p, text);
                p.openBatch();
                p.set(0, 0, 0, 1);
            }, STATE, LightPropagator::read);
        }
        LightPropagator p = new LightPropagator();
        read(p, "s0,0,0=1;s0,0");
        p.openBatch();
        p.read();
        due("11: the fault position stays", p.faultPosition(), 13);
    }

    /** "NONE if that text had no fault and no command was refused, or none was read" */
    private static void faultPositionOfNothing() {
        LightPropagator p = new LightPropagator();
        due("11: none was read", p.faultPosition(), NONE);
        write(p, "x");
        due("11: a text that waits", p.faultPosition(), NONE);
        p.openBatch();
        p.read();
        due("11: a text that was not read", p.faultPosition(), NONE);
        p.closeBatch();
        p.read();
        due("11: a fault", p.faultPosition(), 0);
    }

    /** "the text that was read most recently" */
    private static void faultPositionOfTheLatest() {
        LightPropagator p = new LightPropagator();
        read(p, "s0,0");
        due("11: a fault", p.faultPosition(), 4);
        read(p, "l0,0,0;l0,0,16");
        due("11: a refusal", p.faultPosition(), 7);
        read(p, "l0,0,0");
        due("11: none", p.faultPosition(), NONE);
        p.read();
        due("11: an empty text", p.faultPosition(), 0);
        p.undo();
        p.append(1);
        write(p, "l0,0,0");
        p.set(0, 0, 0, 1);
        due("11: other calls leave it", p.faultPosition(), 0);
    }

    /** "A change of a text ... is undone as a whole." */
    private static void textIsOneChange() {
        LightPropagator p = new LightPropagator();
        long before = p.checksum();
        read(p, "s0,0,0=1;f4,4,4,5,5,5=2;l1,3,0;e2,0,15");
        due("12: one change", p.undo(), 0);
        due("36: as before", p.checksum(), before);
        due("14: as before", p.loss(1, SUN), 15);
        due("15: as before", p.emission(2, RED), 0);
        read(p, "l0,0,0");
        due("12: a text that changes nothing", p.undo(), 0);
    }

    /** "executes them in their order, and their effect together is the effect of the call" */
    private static void effectIsThatOfAll() {
        LightPropagator p = night();
        read(p, "s0,0,0=2;e2,0,1;s11,7,11=2;s1,0,0=2");
        due("22: three lamps", p.effect(-1), 3);
        due("22: the last one", p.effect(2), 1195);
        read(p, "e2,0,0;e2,1,1");
        due("22: another color", p.effect(-1), 3);
        read(p, "f0,0,0,11,7,11=0;s5,5,5=2;s5,5,5=0");
        due("22: the last command counts", p.effect(-1), 3);
        due("13: it is 0", p.type(5, 5, 5), 0);
    }
}
