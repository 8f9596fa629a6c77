/** The boundaries of the TAPE, of a TEXT and of its FAULTS (promises 2, 3 and 5, and 'Terms'). */
public final class TextBoundaryTest {
    private static final int NO_FAULT = CubeForms.NONE;
    private static final int MOST = Integer.MAX_VALUE;
    private static final int LEAST = Integer.MIN_VALUE;
    /** 400 bytes to the last sign: 9, 42 cells of 9 and one of 13. */
    private static final String LONGEST =
            "sides 16;" + "cell 1:1;".repeat(42) + "cell 15:1234;";

    private TextBoundaryTest() {
    }

    public static void main(String[] args) {
        feedFillsTheTape();
        feedPutsTheHighestByteFirst();
        lengthsFrom1To16();
        sidesFrom1To4();
        placesUpTo512();
        placeOfACell();
        asManyNumbersAsSides();
        valuesUpToABillion();
        theLastCounts();
        words();
        blanks();
        anyByte();
        endsTooEarly();
        theLeastByteIsTold();
        theFirstOfTheListIsTold();
        theFirstBytesOnly();
        longestText();
        lengthOfATextThatIsNone();
        whatATextChanges();
        placeOfTheFault();
        Check.end("TextBoundaryTest");
    }

    private static void good(String text, int places) {
        CubeForms x = Check.rich();
        int n = Check.put(x, text);
        Twins.answered("3: text " + text, x, c -> c.text(n), places);
        Check.due("3: PLACES of " + text, x.told(1), places);
        Check.due("5: no fault of " + text, x.fault(), NO_FAULT);
        Check.due("3: the tape behind " + text, x.told(8), 0);
        Check.due("3: an act " + text, x.told(9), 5);
        Check.due("3: PLAIN behind " + text, x.told(2), 0);
        Check.due("3: no mix behind " + text, x.told(7), 0);
    }

    private static void bad(String text, int kind, int place) {
        Twins.Maker fed = () -> {
            CubeForms x = Check.rich();
            Check.put(x, text);
            return x;
        };
        Twins.tapeTaken("3: text " + text, fed, x -> x.text(text.length()), kind - 10, place);
    }

    private static void feedFillsTheTape() {
        for (int times = 0; times < 20; times++) {
            Twins.answered("2: feed no. " + times, Check.fed(times), x -> x.feed(0, 0, 0, 0, 0),
                    20 * times + 20);
        }
        Twins.asked("2: feed of 420", () -> Check.fed(20), x -> x.feed(1, 2, 3, 4, 5),
                CubeForms.NONE);
        CubeForms x = Check.fed(20);
        Check.due("2: 400 blanks", x.text(400), -9);
        Check.due("5: at the length", x.fault(), 400);
        Check.due("2: empty again", x.feed(0, 0, 0, 0, 0), 20);
        CubeForms y = Check.fed(20);
        y.feed(0x73696465, 0x7320323B, 0, 0, 0);
        Check.due("2: nothing of a feed of 420 is there", y.text(400), -9);
    }

    private static void feedPutsTheHighestByteFirst() {
        String[] texts = {"sides 2;cell 1:-7;  ", "  sides 3;cell 2:55;", "sides16;cell 10:777;"};
        int[] places = {2, 3, 16};
        for (int i = 0; i < texts.length; i++) {
            CubeForms x = new CubeForms();
            Check.put(x, texts[i]);
            Check.due("2: the bytes of " + texts[i], x.text(20), places[i]);
        }
        for (int at = 0; at < 20; at++) {
            byte[] bytes = " ".repeat(20).getBytes();
            bytes[at] = (byte) 200;
            CubeForms x = new CubeForms();
            Check.put(x, bytes);
            x.text(20);
            Check.due("2: where byte " + at + " stands", x.fault(), at);
        }
    }

    private static void lengthsFrom1To16() {
        for (int n = 1; n <= 16; n++) {
            good("sides " + n + ";", n);
            good("sides 2 " + n + ";", 2 * n);
        }
        bad("sides 0;", 2, 6);
        bad("sides 17;", 2, 6);
        bad("sides 2 0;", 2, 8);
        bad("sides 2 17;", 2, 8);
        bad("sides 1 1 1 17;", 2, 12);
        bad("sides 1 1 1 0;", 2, 12);
        good("sides 0000000016;", 16);
        bad("sides 0000000017;", 2, 6);
        bad("sides 0000000000;", 2, 6);
        // Numbers that would be 1 or 2 again, if they wrapped around in 32 or 64 bits.
        bad("sides 4294967297;", 2, 6);
        bad("sides 18446744073709551617;", 2, 6);
        bad("sides 340282366920938463463374607431768211458;", 2, 6);
        bad("sides 2147483648;", 2, 6);
        bad("sides " + "9".repeat(300) + ";", 2, 6);
        bad("sides -1;", 1, 6);
    }

    private static void sidesFrom1To4() {
        bad("sides;", 1, 5);
        bad("sides ;", 1, 6);
        good("sides 2;", 2);
        good("sides 2 2;", 4);
        good("sides 2 2 2;", 8);
        good("sides 2 2 2 2;", 16);
        bad("sides 2 2 2 2 2;", 3, 14);
        bad("sides 2 2 2 2 1;", 3, 14);
        bad("sides 2 2 2 2 16;", 3, 14);
        bad("sides 2 2 2 2 2 2;", 3, 14);
        bad("sides 2 2 2 2 2", 3, 14);
        bad("sides 2 2 2 2 x;", 1, 14);
        bad("sides 2 2 2 2", 1, 13);
        for (int sides = 1; sides <= 4; sides++) {
            CubeForms x = Check.cube("sides" + " 3".repeat(sides) + ";");
            Check.due("3: told(0)", x.told(0), sides);
        }
    }

    private static void placesUpTo512() {
        String[] most = {"16 16 2", "2 16 16", "16 2 16", "8 8 8", "4 4 4 8", "16 1 2 16",
            "16 16 2 1", "1 16 16 2"};
        for (String lengths : most) {
            good("sides " + lengths + ";", 512);
        }
        good("sides 13 13 3;", 507);
        // 520 is the least count above 512 that lengths can make.
        bad("sides 13 8 5;", 4, 11);
        bad("sides 5 13 8;", 4, 11);
        bad("sides 8 5 1 13;", 4, 12);
        bad("sides 13 8 5 1;", 4, 11);
        bad("sides 16 16 2 2;", 4, 14);
        bad("sides 16 16 16 16;", 4, 12);
        bad("sides 2 16 16  16;", 4, 15);
        bad("sides 16 16 3", 4, 12);
    }

    private static void placeOfACell() {
        good("sides 2 3;cell 0 0:1;cell 1 2:1;", 6);
        bad("sides 2 3;cell 2 0:1;", 2, 15);
        bad("sides 2 3;cell 0 3:1;", 2, 17);
        bad("sides 2 3;cell 2 3:1;", 2, 15);
        bad("sides 2 3;cell 0 -1:1;", 1, 17);
        bad("sides 2 3;cell 4294967296 0:1;", 2, 15);
        bad("sides 1;cell 1:1;", 2, 13);
        good("sides 1;cell 0:1;", 1);
        good("sides 16;cell 15:1;", 16);
        bad("sides 16;cell 16:1;", 2, 14);
        good("sides 2 3;cell 0001 0002:1;", 6);
        CubeForms x = Check.cube(
                "sides 2 3 4;cell 0 0 1:1;cell 0 1 0:2;cell 1 0 0:3;cell 1 2 3:4;");
        int[] place = {1, 4, 12, 23};
        for (int i = 0; i < place.length; i++) {
            Check.due("3: the last side is the lowest", x.value(place[i]), i + 1);
        }
        Check.due("3: 0 at first", x.told(6), 4);
    }

    private static void asManyNumbersAsSides() {
        for (int sides = 1; sides <= 4; sides++) {
            String head = "sides" + " 2".repeat(sides) + ";cell";
            String few = head + " 1".repeat(sides - 1);
            good(few + " 1:5;", 1 << sides);
            bad(few + ":5;", 1, few.length());
            bad(few + " 1 1:5;", 1, few.length() + 3);
            bad(few + " 1 9:5;", 1, few.length() + 3);
        }
    }

    private static void value(String v, long want) {
        CubeForms x = Check.cube("sides 2;cell 1:" + v + ";");
        Check.due("3: no fault of V " + v, x.fault(), NO_FAULT);
        Check.due("3: V " + v, x.value(1), want);
    }

    private static void valuesUpToABillion() {
        value("0", 0);
        value("-0", 0);
        value("1", 1);
        value("-1", -1);
        value("999999999", 999999999);
        value("1000000000", 1000000000);
        value("-1000000000", -1000000000);
        value(" - 0000000000000001000000000", -1000000000);
        value("0".repeat(300) + "7", 7);
        String[] over = {"1000000001", "2147483647", "2147483648", "4294967296", "9999999999",
            "10000000000", "18446744073709551616", "0000000001000000001", "9".repeat(300)};
        for (String v : over) {
            bad("sides 2;cell 1:" + v + ";", 2, 15);
            bad("sides 2;cell 1:-" + v + ";", 2, 16);
            bad("sides 2;cell 1: - " + v + ";", 2, 18);
        }
        bad("sides 2;cell 1:--1;", 1, 16);
        bad("sides 2;cell 1:-;", 1, 16);
        bad("sides 2;cell 1:;", 1, 15);
        bad("sides 2;cell 1:1-;", 1, 16);
        bad("sides 2;cell -1:1;", 1, 13);
    }

    private static void theLastCounts() {
        CubeForms x = Check.cube("sides 3;cell 0:1;cell 1:2;cell 0:3;cell 2:4;cell 2:-5;cell 1:0;");
        Check.due("3: told again", x.value(0), 3);
        Check.due("3: told again, 0", x.value(1), 0);
        Check.due("3: told again, below 0", x.value(2), -5);
        Check.due("3: not 0", x.told(6), 2);
    }

    private static void words() {
        good("sides2 3;cell1 2:7;", 6);
        bad("side 2;", 1, 0);
        bad("sidess 2;", 1, 0);
        bad("si des 2;", 1, 0);
        bad("Sides 2;", 1, 0);
        bad("sideS 2;", 1, 0);
        bad("sidescell 2;", 1, 0);
        bad("cell 0:1;", 1, 0);
        bad("  side 2;", 1, 2);
        bad("sides 2;cel 1:1;", 1, 8);
        bad("sides 2;celll 1:1;", 1, 8);
        bad("sides 2;ce ll 1:1;", 1, 8);
        bad("sides 2;sides 2;", 1, 8);
        bad("sides 2;Cell 1:1;", 1, 8);
        bad("sides 2;cell 1:1;cells 1:1;", 1, 17);
        bad("sides 2;1:1;", 1, 8);
        bad("sides 2a;", 1, 7);
        bad("sides a2;", 1, 6);
        bad("sides 2;;", 1, 8);
        bad("sides 2,3;", 1, 7);
        bad("sides 2;cell 1;", 1, 14);
        bad("sides 2;cell 1 7;", 1, 15);
        bad("sides 2;cell 1:7:", 1, 16);
        for (int at = 0; at < 5; at++) {
            bad("sides".substring(0, at) + "z" + "sides".substring(at + 1) + " 2;", 1, 0);
            bad("sides".substring(0, at) + "sides".substring(at + 1) + " 2;", 1, 0);
        }
        for (int at = 0; at < 4; at++) {
            String head = "sides 2;" + "cell".substring(0, at);
            bad(head + "z" + "cell".substring(at + 1) + " 1:1;", 1, 8);
            bad(head + "cell".substring(at + 1) + " 1:1;", 1, 8);
        }
    }

    private static void blanks() {
        String[] parts = {"sides", "2", "3", ";", "cell", "1", "2", ":", "-", "7", ";", ""};
        for (int blanks = 1; blanks <= 9; blanks++) {
            StringBuilder text = new StringBuilder();
            for (String part : parts) {
                text.append(" ".repeat(blanks)).append(part);
            }
            good(text.toString(), 6);
        }
        for (char sign : new char[] {9, 10, 13, 0, 31, 33, 160, 255}) {
            StringBuilder head = new StringBuilder();
            for (int i = 0; i < parts.length; i++) {
                StringBuilder text = new StringBuilder(head).append(sign);
                for (int j = i; j < parts.length; j++) {
                    text.append(parts[j]).append(' ');
                }
                bad(text.toString(), 1, head.length());
                head.append(parts[i]).append(' ');
            }
        }
        good("sides 1 6;", 6);
        good("sides 16;", 16);
        bad("sides 16;cell 1 5:1;", 1, 16);
        bad("sides 2;cell 1:1 0;", 1, 17);
    }

    private static String with(String head, int b, String tail) {
        return head + (char) b + tail;
    }

    private static boolean isDigit(int b) {
        return b >= '0' && b <= '9';
    }

    private static void anyByte() {
        for (int b = 0; b < 256; b++) {
            boolean letter = b >= 'a' && b <= 'z';
            boolean digit = isDigit(b);
            if (b == ' ') {
                good(with("", b, "sides 2;"), 2);
                good(with("sides", b, "2;"), 2);
                good(with("sides 2", b, ";"), 2);
                good(with("sides 2;", b, ""), 2);
                bad(with("sides 2;cell 1", b, "1;"), 1, 15);
                good(with("sides 2;cell 1:", b, "1;"), 2);
                continue;
            }
            bad(with("", b, "sides 2;"), 1, 0);
            if (b == '0' || b == '1') {
                good(with("sides", b, "2;"), b == '0' ? 2 : 12);
            } else {
                bad(with("sides", b, "2;"), digit ? 2 : 1, letter ? 0 : 5);
            }
            bad(with("sides 2", b, ";"), digit ? 2 : 1, digit ? 6 : b == ';' ? 8 : 7);
            bad(with("sides 2;", b, ""), 1, 8);
            if (b == ':') {
                good(with("sides 2;cell 1", b, "1;"), 2);
            } else {
                bad(with("sides 2;cell 1", b, "1;"), digit ? 2 : 1, digit ? 13 : 14);
            }
            if (b == '-' || digit) {
                good(with("sides 2;cell 1:", b, "1;"), 2);
            } else {
                bad(with("sides 2;cell 1:", b, "1;"), 1, 15);
            }
        }
    }

    /** Each begin of a text: a word that is cut is another word, all else ends at the length. */
    private static void endsTooEarly() {
        String text = "sides 2 3;cell 1 2:-7;";
        for (int n = 0; n <= text.length(); n++) {
            String begin = text.substring(0, n);
            if (n == 10 || n == 22) {
                good(begin, 6);
                good(begin + "   ", 6);
            } else {
                boolean cut = n < 5 || n > 10 && n < 14;
                int word = n < 5 ? 0 : 10;
                bad(begin, 1, cut ? word : n);
                bad(begin + "   ", 1, cut && n > 0 ? word : n + 3);
            }
        }
    }

    private static void theLeastByteIsTold() {
        bad("sides 17 0;", 2, 6);
        bad("sides 1 1 1 1 1;cell 9:1;", 3, 14);
        bad("sides 16 16 3 1 1;", 4, 12);
        bad("sides 16 16 3 0;", 4, 12);
        bad("sides 2;cell 2:1000000001;", 2, 13);
        bad("sides 2;cell 1:1000000001", 2, 15);
        bad("sides 2;cell 1:1000000001;cel", 2, 15);
        bad("sides 2;cell 1 1:1000000001;", 1, 15);
        bad("sides 2 17 x", 2, 8);
        bad("sides 2 x 17", 1, 8);
    }

    private static void theFirstOfTheListIsTold() {
        bad("sides 1 1 1 1 0;", 2, 14);
        bad("sides 1 1 1 1 17;", 2, 14);
        bad("sides 16 16 17;", 2, 12);
        bad("sides 16 16 2 1 2;", 3, 16);
    }

    private static void theFirstBytesOnly() {
        CubeForms x = new CubeForms();
        Check.put(x, "sides 2;cell 1:5;what stands here is not looked at");
        Check.due("3: the first 17 bytes", x.text(17), 2);
        Check.due("3: the value", x.value(1), 5);
        Check.due("3: all of the tape is empty", x.told(8), 0);
        Check.put(x, "sides 16;");
        Check.due("3: cut within a number", x.text(7), -9);
        Check.due("5: at the length", x.fault(), 7);
        Check.put(x, "sides 3;");
        Check.due("3: from the begin again", x.text(8), 3);
    }

    private static void longestText() {
        Check.due("400 bytes", LONGEST.length(), 400);
        good(LONGEST, 16);
        CubeForms x = Check.cube(LONGEST);
        Check.due("3: the last of 400 bytes", x.value(15), 1234);
        Check.due("3: two are not 0", x.told(6), 2);
        String cut = LONGEST.substring(0, 399);
        bad(cut, 1, 399);
        bad(cut + "?", 1, 399);
        bad(cut + " ", 1, 400);
        bad(" ".repeat(400), 1, 400);
        bad("s".repeat(400), 1, 0);
        bad("sides" + "0".repeat(395), 2, 5);
        good("sides" + "0".repeat(393) + "2;", 2);
    }

    private static void lengthOfATextThatIsNone() {
        for (int times : new int[] {0, 1, 15, 16, 19, 20}) {
            for (int n : new int[] {-1, -2, 20 * times + 1, 20 * times + 20, 401, MOST, LEAST}) {
                Twins.refused("3: text(" + n + ") of " + 20 * times, () -> Check.fed(times),
                        x -> x.text(n), Check.ARGUMENT);
            }
            Twins.tapeTaken("3: text of all", () -> Check.fed(times), x -> x.text(20 * times), -9,
                    20 * times);
            Twins.tapeTaken("3: text(0)", () -> Check.fed(times), x -> x.text(0), -9, 0);
        }
    }

    private static void whatATextChanges() {
        for (int form = 0; form < 5; form++) {
            CubeForms x = Check.cube("sides 2 3;cell 1 2:9;");
            x.edge(7);
            x.form(form);
            Check.tellMix(x, "add 1;");
            Check.tell(x, "sides 2 3;cell 0 0:1;");
            Check.due("3: PLAIN", x.told(2), 0);
            Check.due("3: edge stays", x.told(3), 7);
            Check.due("3: the old VALUES are gone", x.value(5), 0);
            Check.due("3: the MIX is gone, though SIDES are the same", x.told(7), 0);
            Check.due("3: one act more", x.told(9), 4);
        }
        CubeForms y = Check.cube("sides 2 2 2 2;cell 1 1 1 1:1;");
        Check.due("3: fewer sides", Check.tell(y, "sides 3;"), 3);
        Check.due("3: fewer sides", y.told(0), 1);
        Check.refused("3: no second side", () -> y.side(1, 0), Check.NO_SUCH);
        Check.refused("3: no fourth place", () -> y.value(3), Check.NO_SUCH);
        Check.due("3: more again", Check.tell(y, "sides 2 2 2 2;"), 16);
        Check.due("3: with VALUES 0", y.told(6), 0);
    }

    private static void placeOfTheFault() {
        CubeForms x = new CubeForms();
        Check.due("5: ahead of any", x.fault(), NO_FAULT);
        Check.refused("5: refused", () -> x.text(1), Check.ARGUMENT);
        Check.due("5: ahead of any that threw nothing", x.fault(), NO_FAULT);
        Check.tell(x, "?");
        Check.due("5: at byte 0", x.fault(), 0);
        Check.refused("5: refused", () -> x.text(1), Check.ARGUMENT);
        Check.refused("5: refused", () -> x.mix(1), Check.ARGUMENT);
        Check.due("5: stays with a refusal", x.fault(), 0);
        Check.tell(x, "sides 2;");
        Check.due("5: none of the latest text", x.fault(), NO_FAULT);
        Check.refused("5: refused", () -> x.mix(-1), Check.ARGUMENT);
        Check.due("5: none stays with a refusal", x.fault(), NO_FAULT);
        Check.tellMix(x, "add 0;?");
        Check.due("5: of the latest mix", x.fault(), 6);
        x.undo();
        x.form(1);
        Check.due("5: acts do not touch it", x.fault(), 6);
        Check.tellMix(x, "");
        Check.due("5: none of the latest mix", x.fault(), NO_FAULT);
    }
}
