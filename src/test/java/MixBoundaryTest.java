/** The boundaries of a MIX, its FAULTS and its COST (promises 4, 22 and 23, and '==== 3.'). */
public final class MixBoundaryTest {
    private static final int MOST = Integer.MAX_VALUE;
    private static final int LEAST = Integer.MIN_VALUE;
    private static final String FORTY = "add1;".repeat(40);

    private MixBoundaryTest() {
    }

    public static void main(String[] args) {
        numbersOfPlaces();
        timesFrom0To60();
        threeDeep();
        fortySteps();
        wordsAndSigns();
        eachLetterCounts();
        bracketsAreForgotten();
        blanksAndAnyByte();
        endsTooEarly();
        theLeastByteIsTold();
        longestMix();
        lengthOfAMixThatIsNone();
        whatAMixChanges();
        whenAMixIsGone();
        stepsThatAreLeftOut();
        twoThousandSteps();
        twoThousandStepsOfLists();
        againIsNone();
        formAndEdgeOfACost();
        costFromTheCubeAsItIs();
        cheapestOfSeveral();
        cheapestByTheEdge();
        Check.end("MixBoundaryTest");
    }

    private static CubeForms richWith(String text) {
        CubeForms x = Check.rich();
        Check.put(x, text);
        return x;
    }

    private static void good(String text, int steps) {
        CubeForms x = richWith(text);
        Twins.answered("4: mix " + text, x, c -> c.mix(text.length()), steps);
        Check.due("4: STEPS of " + text, x.told(7), steps);
        Check.due("5: no fault of " + text, x.fault(), CubeForms.NONE);
        Check.due("4: the tape behind " + text, x.told(8), 0);
        Check.due("4: no act " + text, x.told(9), 4);
    }

    private static void bad(String text, int kind, int place) {
        Twins.tapeTaken("4: mix " + text, () -> richWith(text), x -> x.mix(text.length()),
                kind - 10, place);
    }

    private static void numbersOfPlaces() {
        for (String n : new String[] {"0", "1", "5", "6", "511", "000000000000511"}) {
            good("add " + n + ";", 1);
            good("sum " + n + " 0;", 1);
            good("sum 0 " + n + ";", 1);
        }
        String[] none = {"512", "513", "1000000000", "2147483648", "4294967296", "4294967297",
            "18446744073709551616", "0000000000512", "9".repeat(200)};
        for (String n : none) {
            bad("add " + n + ";", 2, 4);
            bad("sum " + n + " 0;", 2, 4);
            bad("sum 0 " + n + ";", 2, 6);
        }
        bad("add -1;", 1, 4);
        bad("sum 0 -1;", 1, 6);
    }

    private static void timesFrom0To60() {
        for (int n = 0; n <= 60; n++) {
            good("again " + n + "[add 1;];", 2);
        }
        good("again 0000060[];", 1);
        for (String n : new String[] {"61", "511", "4294967296", "00061", "9".repeat(200)}) {
            bad("again " + n + "[add 1;];", 2, 6);
        }
        bad("again -1[];", 1, 6);
    }

    private static void threeDeep() {
        good("again 1[];", 1);
        good("again 1[again 1[];];", 2);
        good("again 1[again 1[again 1[];];];", 3);
        bad("again 1[again 1[again 1[again 1[];];];];", 3, 31);
        bad("again 0[again 0[again 0[again 0[];];];];", 3, 31);
        bad("again 1[again 1[again 1[again 1 [", 3, 32);
        // What is closed again does not count.
        good("again 1[again 1[again 1[];again 1[];];again 1[again 1[];];];again 1[];", 7);
        bad("again 1[again 1[again 1[];again 1[again 1[];];];];", 3, 41);
        // The number, the step and the word ahead of such a sign come first.
        bad("again 1[again 1[again 1[again 61[];];];];", 2, 30);
        bad("again 1[again 1[again 1[agai 1[];];];];", 1, 24);
        bad("again 1[again 1[again 1[add 1[];];];];", 1, 29);
    }

    private static void fortySteps() {
        good("add1;".repeat(39), 39);
        good(FORTY, 40);
        bad(FORTY + "add1;", 4, 200);
        bad(FORTY + "sum 0 0;", 4, 200);
        bad(FORTY + "again 1[];", 4, 200);
        bad(FORTY + "   add", 4, 203);
        bad(FORTY + "add 512;", 4, 200);
        bad(FORTY + "ad 1;", 1, 200);
        bad(FORTY + ";", 1, 200);
        bad(FORTY + "]", 1, 200);
        bad(FORTY + "1", 1, 200);
        good("add1;".repeat(39) + "again1[];", 40);
        bad("add1;".repeat(39) + "again1[add1;];", 4, 202);
        good("again1[" + "add1;".repeat(39) + "];", 40);
        bad("again1[" + "add1;".repeat(39) + "];add1;", 4, 204);
        good("again0[" + "add1;".repeat(38) + "];again0[];", 40);
        good("again0[];".repeat(30), 30);
        CubeForms x = Check.rich();
        for (int i = 0; i < 3; i++) {
            Check.due("4: counted anew", Check.tellMix(x, FORTY), 40);
        }
    }

    private static void wordsAndSigns() {
        good("add1;sum2 3;again4[add5;];", 4);
        bad("ad 1;", 1, 0);
        bad("addd 1;", 1, 0);
        bad("addsum 1;", 1, 0);
        bad("Add 1;", 1, 0);
        bad("a dd 1;", 1, 0);
        bad("su 1 2;", 1, 0);
        bad("sums 1 2;", 1, 0);
        bad("agains 1[];", 1, 0);
        bad("agai 1[];", 1, 0);
        bad("cell 1;", 1, 0);
        bad("sides 1;", 1, 0);
        bad(";", 1, 0);
        bad("1;", 1, 0);
        bad("[];", 1, 0);
        bad("]", 1, 0);
        bad("add 1;]", 1, 6);
        bad("add;", 1, 3);
        bad("add 1 1;", 1, 6);
        bad("add 1:", 1, 5);
        bad("add 1;;", 1, 6);
        bad("sum;", 1, 3);
        bad("sum 1;", 1, 5);
        bad("sum 1 2 3;", 1, 8);
        bad("sum 1 x;", 1, 6);
        bad("again;", 1, 5);
        bad("again[];", 1, 5);
        bad("again 1;", 1, 7);
        bad("again 1 1[];", 1, 8);
        bad("again 1];", 1, 7);
        bad("again 1[;];", 1, 8);
        bad("again 1[add 1];", 1, 13);
        bad("again 1[add 1;]add 1;", 1, 15);
        bad("again 1[add 1;]];", 1, 15);
        bad("again 1[add 1;];];", 1, 16);
        bad("again 1[add 1;]", 1, 15);
        bad("again 1[[];", 1, 8);
    }

    private static void eachLetterCounts() {
        String[] tails = {" 1;", " 1 2;", " 1[];"};
        String[] words = {"add", "sum", "again"};
        for (int i = 0; i < words.length; i++) {
            good(words[i] + tails[i], 1);
            for (int at = 0; at < words[i].length(); at++) {
                String left = words[i].substring(0, at);
                String right = words[i].substring(at + 1);
                bad(left + "z" + right + tails[i], 1, 0);
                bad(left + (char) (words[i].charAt(at) - 32) + right + tails[i], 1, 0);
                bad(left + right + tails[i], 1, 0);
            }
        }
    }

    /** What a faulty mix left open is not open in the next one. */
    private static void bracketsAreForgotten() {
        for (String open : new String[] {"again 1[", "again 1[again 1[again 1[add 1;"}) {
            CubeForms x = Check.rich();
            Check.tellMix(x, open);
            Check.due("4: a fault", x.fault(), open.length());
            Check.due("4: a mix behind it", Check.tellMix(x, "add 1;"), 1);
            Check.tellMix(x, open);
            Check.due("4: no sign to close", Check.tellMix(x, "add 1;];"), -9);
            Check.due("4: where", x.fault(), 6);
            Check.tellMix(x, open);
            Check.due("4: three deep", Check.tellMix(x, "again 1[again 1[again 1[];];];"), 3);
        }
    }

    private static void blanksAndAnyByte() {
        String[] parts = {"add", "1", ";", "again", "2", "[", "sum", "0", "1", ";", "]", ";", ""};
        for (int blanks = 1; blanks <= 9; blanks++) {
            StringBuilder text = new StringBuilder();
            for (String part : parts) {
                text.append(" ".repeat(blanks)).append(part);
            }
            good(text.toString(), 3);
        }
        for (char sign : new char[] {9, 10, 13, 0, 31, 33, 160, 255}) {
            StringBuilder head = new StringBuilder();
            for (int i = 0; i < parts.length; i++) {
                StringBuilder text = new StringBuilder(head).append(sign);
                for (int j = i; j < parts.length; j++) {
                    text.append(parts[j]).append(' ');
                }
                bad(text.toString(), 1, head.length());
                head.append(parts[i]).append(' ');
            }
        }
        for (int b = 0; b < 256; b++) {
            boolean digit = b >= '0' && b <= '9';
            if (b == ' ') {
                good(" ", 0);
                good("add 1; ", 1);
                bad("again 1 ];", 1, 8);
                continue;
            }
            bad("" + (char) b, 1, 0);
            bad("add 1;" + (char) b, 1, 6);
            if (b == '[') {
                good("again 1[];", 1);
            } else {
                bad("again 1" + (char) b + "];", 1, digit ? 8 : 7);
            }
        }
    }

    /** Each begin of a mix: a word that is cut is another word, all else ends at the length. */
    private static void endsTooEarly() {
        String text = "add 1;again 2[sum 0 1;];";
        int[] goodAt = {0, 6, 24};
        int[] steps = {0, 1, 3};
        for (int n = 0; n <= text.length(); n++) {
            String begin = text.substring(0, n);
            int at = java.util.Arrays.binarySearch(goodAt, n);
            if (at >= 0) {
                good(begin, steps[at]);
                good(begin + "  ", steps[at]);
                continue;
            }
            int word = n < 3 ? 0 : n > 6 && n < 11 ? 6 : n > 14 && n < 17 ? 14 : -1;
            bad(begin, 1, word >= 0 ? word : n);
            bad(begin + "  ", 1, word >= 0 ? word : n + 2);
        }
    }

    private static void theLeastByteIsTold() {
        bad("add 512;sum 0;", 2, 4);
        bad("sum 512 512;", 2, 4);
        bad("sum 0 512", 2, 6);
        bad("again 61 add", 2, 6);
        bad("again 1[again 1[again 1[again 1[add 512;", 3, 31);
        bad("add 1;ad 512;", 1, 6);
        bad("add x;add 512;", 1, 4);
    }

    private static void longestMix() {
        String text = "sum 100 200;".repeat(25);
        Check.due("300 bytes", text.length(), 300);
        good(text, 25);
        bad(text.substring(0, 299), 1, 299);
        bad(text.substring(0, 299) + " ", 1, 300);
        good(" ".repeat(300), 0);
        good(" ".repeat(294) + "add 1;", 1);
        good("add" + "0".repeat(296) + ";", 1);
        bad("a".repeat(300), 1, 0);
        bad("again 1[" + " ".repeat(292), 1, 300);
    }

    private static void lengthOfAMixThatIsNone() {
        for (int times : new int[] {0, 1, 14, 15, 16, 20}) {
            int bytes = 20 * times;
            for (int n : new int[] {-1, bytes + 1, 301, 320, 400, 401, MOST, LEAST}) {
                Twins.refused("4: mix(" + n + ") of " + bytes, () -> Check.fed(times),
                        x -> x.mix(n), Check.ARGUMENT);
            }
            CubeForms x = Check.fed(times);
            Twins.answered("4: the most of " + bytes, x, c -> c.mix(Math.min(300, bytes)), 0);
            Check.due("4: all of the tape is empty", x.told(8), 0);
            CubeForms y = Check.fed(times);
            Twins.answered("4: mix(0) of " + bytes, y, c -> c.mix(0), 0);
            Check.due("4: all of the tape is empty", y.told(8), 0);
        }
        CubeForms z = richWith("add 1;add what stands here is not looked at");
        Check.due("4: the first bytes only", z.mix(6), 1);
    }

    private static void whatAMixChanges() {
        CubeForms x = Check.rich();
        long print = x.print();
        Check.due("4: another mix", Check.tellMix(x, "add 0;add 0;add 0;add 0;"), 4);
        Check.due("4: no NUMBER is touched", x.print(), print);
        Check.due("4: PLAIN", x.cost(0, 0), 4);
        Check.due("4: a shorter one", Check.tellMix(x, "sum 0 5;"), 1);
        Check.due("4: PLAIN", x.cost(0, 0), 6);
        Check.due("4: none", Check.tellMix(x, ""), 0);
        Check.due("4: no cost", x.cost(0, 0), 0);
        x.undo();
        Check.tellMix(x, "add 0;");
        Check.tellMix(x, "add 512;");
        Check.due("4: the one ahead stays with a fault", x.cost(0, 0), 1);
    }

    private static void mixBehind(String what, Twins.Ask act, int steps, int kind) {
        CubeForms x = Check.rich();
        Check.refused(what, () -> act.of(x), kind);
        Check.due(what + ": STEPS", x.told(7), steps);
        for (int form = 0; form < 5; form++) {
            long cost = x.cost(form, form == 2 ? 1 : 0);
            Check.due(what + ": a cost in form " + form, cost > 0 ? 1 : 0, steps > 0 ? 1 : 0);
        }
    }

    private static void whenAMixIsGone() {
        mixBehind("told anew", x -> Check.tell(x, "sides 2 3;"), 0, Check.NOTHING);
        mixBehind("a fault", x -> Check.tell(x, "sides 2 3"), 3, Check.NOTHING);
        mixBehind("text refused", x -> x.text(1), 3, Check.ARGUMENT);
        mixBehind("mix refused", x -> x.mix(1), 3, Check.ARGUMENT);
        mixBehind("grows", x -> x.grow(1, 1), 0, Check.NOTHING);
        mixBehind("grow refused", x -> x.grow(1, 14), 3, Check.STATE);
        mixBehind("folds", x -> x.fold(0), 0, Check.NOTHING);
        mixBehind("fold refused", x -> x.fold(2), 3, Check.NO_SUCH);
        mixBehind("form", x -> x.form(1), 3, Check.NOTHING);
        mixBehind("edge", x -> x.edge(1), 3, Check.NOTHING);
        mixBehind("add", x -> x.add(0, 1), 3, Check.NOTHING);
        mixBehind("undo of an add", CubeForms::undo, 3, Check.NOTHING);
        CubeForms y = Check.rich();
        for (int i = 0; i < 3; i++) {
            y.undo();
            Check.due("11: SIDES are the same", y.told(7), 3);
        }
        y.undo();
        Check.due("11: SIDES are others", y.told(7), 0);
        y.add(0, 1);
        Check.due("11: no cost", y.cost(0, 0), 0);
        Check.due("11: no cost in LISTS", y.cost(4, 0), 0);
        CubeForms z = new CubeForms();
        z.add(0, 1);
        Check.due("22: no mix yet", z.cost(0, 0), 0);
        Check.due("22: no mix yet, in LISTS", z.cost(4, 0), 0);
    }

    private static void costIs(CubeForms x, String mix, long... want) {
        Check.tellMix(x, mix);
        Check.due("22: no fault of " + mix, x.fault(), CubeForms.NONE);
        int[] forms = {0, 1, 3, 4};
        for (int i = 0; i < want.length; i++) {
            Check.due("22: " + mix + " in form " + forms[i], x.cost(forms[i], 0), want[i]);
        }
    }

    private static void stepsThatAreLeftOut() {
        CubeForms x = Check.cube("sides 2 3;cell 0 0:1;cell 1 2:1;");
        costIs(x, "add 5;", 1, 1, 1, 1);
        costIs(x, "add 6;", 0, 0, 0, 0);
        costIs(x, "add 511;", 0, 0, 0, 0);
        costIs(x, "sum 0 5;", 6, 1, 2, 4);
        costIs(x, "sum 0 6;", 0, 0, 0, 0);
        costIs(x, "sum 6 5;", 0, 0, 0, 0);
        costIs(x, "sum 6 6;", 0, 0, 0, 0);
        costIs(x, "sum 5 5;", 1, 4, 6, 1);
        costIs(x, "sum 5 4;", 0, 0, 0, 0);
        costIs(x, "sum 1 3;", 0, 0, 0, 0);
        costIs(x, "sum 3 1;", 0, 0, 0, 0);
        costIs(x, "sum 1 4;", 2, 2, 2, 0);
        costIs(x, "sum 1 4;add 6;sum 5 4;", 2, 2, 2, 0);
        costIs(x, "add 6;sum 1 4;add 4;sum 1 4;sum 4 1;", 5, 6, 5, 4);
        for (int edge = 1; edge <= 16; edge++) {
            Check.tellMix(x, "add 6;sum 5 4;sum 0 6;sum 1 3;");
            Check.due("22: left out in BOXES", x.cost(2, edge), 0);
        }
    }

    private static void twoThousandSteps() {
        // SUMS of five: an add at 4 WRITES 1, at 0 it WRITES 5.
        CubeForms x = Check.cube("sides 5;");
        String head = "again 50[again 39[add 4;];];";
        costIs(x, head + "again 48[add 4;];add 0;add 0;add 0;", 2000, 1998 + 10);
        costIs(x, head + "again 49[add 4;];add 0;", 2000, 1999 + 5);
        costIs(x, head + "again 49[add 4;];add 0;add 0;", 2000, 1999 + 5);
        costIs(x, head + "again 50[add 4;];", 2000, 2000);
        costIs(x, head + "again 50[add 4;];add 0;", 2000, 2000);
        costIs(x, head + "again 51[add 4;];add 0;", 2000, 2000);
        for (String out : new String[] {"add 5", "add 511", "sum 4 3", "sum 0 5", "sum 5 0"}) {
            String most = "again 50[again 39[" + out + ";];];";
            costIs(x, most + "again 49[" + out + ";];add 0;add 0;", 1, 5, 3);
            costIs(x, most + "again 50[" + out + ";];add 0;", 0, 0, 0);
        }
        // 666 times three, and two more.
        costIs(x, "again 60[again 60[add 4;sum 1 1;add 3;];];add 0;", 2000, 666 * 5 + 3);
        costIs(x, "again 60[again 60[again 60[add 4;sum 1 1;];];add 0;];", 2000, 3000);
        Check.tellMix(x, "again 60[again 60[again 60[add 4;sum 4 4;];];];");
        // Edge 4: an add at 4 WRITES 1, a sum at 4 READS 2 for its end and 1 ahead of it.
        Check.due("22: in BOXES", x.cost(2, 4), 1000 * 1 + 1000 * 3);
        Check.due("22: in TREE", x.cost(3, 0), 1000 * 1 + 1000 * (2 + 1));
        Check.tell(x, "sides 16 16 2;");
        Check.tellMix(x, "again 60[again 60[sum 0 511;];];");
        Check.due("22: the most", x.cost(0, 0), 2000 * 512);
    }

    private static void twoThousandStepsOfLists() {
        CubeForms x = Check.cube("sides 5;cell 0:1;");
        String head = "again 50[again 39[add 9;];];";
        Check.tellMix(x, head + "again 48[add 9;];add 2;sum 0 4;sum 0 4;");
        Check.due("22: LISTS, 1,998 and two more", x.cost(4, 0), 1 + 2);
        Check.tellMix(x, head + "again 49[add 9;];add 2;sum 0 4;");
        Check.due("22: LISTS, 1,999 and one more", x.cost(4, 0), 1);
        Check.tellMix(x, head + "again 50[add 9;];add 2;");
        Check.due("22: LISTS, 2,000 and none", x.cost(4, 0), 0);
        Check.tellMix(x, "again 60[again 60[sum 0 4;];];");
        Check.due("22: LISTS, one is READ each time", x.cost(4, 0), 2000);
        Check.tellMix(x, "add 3;again 60[again 60[sum 0 4;];];");
        Check.due("22: LISTS, two are READ from then on", x.cost(4, 0), 1 + 1999 * 2);
    }

    private static void againIsNone() {
        CubeForms x = Check.cube("sides 5;");
        costIs(x, "again 60[again 60[again 60[];];];add 0;", 1, 5);
        costIs(x, "again 60[again 60[again 60[];];add 4;];add 0;", 61, 65);
        costIs(x, "again 5[];add 0;", 1, 5);
        costIs(x, "again 3[again 5[];add 4;];add 0;", 4, 8);
        costIs(x, "again 0[add 0;];", 0, 0);
        costIs(x, "again 1[add 0;];", 1, 5);
        costIs(x, "again 60[add 0;];", 60, 300);
        costIs(x, "again 0[again 60[add 0;];];again 60[again 0[add 0;];];", 0, 0);
        costIs(x, "again 0[add 0;];add 4;", 1, 1);
        costIs(x, "again 2[again 3[add 4;];add 0;];add 0;", 9, 21);
        costIs(x, "again 50[again 40[again 0[add 0;];add 4;];];add 0;", 2000, 2000);
        costIs(x, "again 3[again 5[again 7[add 4;];sum 0 4;];add 0;];", 105 + 75 + 3,
                105 + 15 + 15);
    }

    private static void formAndEdgeOfACost() {
        for (int form : new int[] {0, 1, 3, 4}) {
            for (int edge : new int[] {-1, 1, 2, 4, 16, 17, MOST, LEAST}) {
                Twins.refused("22: cost(" + form + ", " + edge + ")", Check::rich,
                        x -> x.cost(form, edge), Check.ARGUMENT);
            }
        }
        for (int edge : new int[] {0, -1, 17, MOST, LEAST}) {
            Twins.refused("22: cost(2, " + edge + ")", Check::rich,
                    x -> x.cost(2, edge), Check.ARGUMENT);
        }
        for (int form : new int[] {-1, 5, MOST, LEAST}) {
            for (int edge : new int[] {0, 1, 16}) {
                Twins.refused("22: cost(" + form + ", " + edge + ")", Check::rich,
                        x -> x.cost(form, edge), Check.ARGUMENT);
            }
        }
        // An add at place 1 (0 1), two sums of all; USED is 1 2, as it is taken on anew.
        long[] want = {13, 4 + 2, 0, 2 + 2 * 2, 3 + 2 * 4};
        for (int form : new int[] {0, 1, 3, 4}) {
            Twins.asked("22: cost(" + form + ", 0)", Check::rich, x -> x.cost(form, 0),
                    want[form]);
        }
        // Edge 1: 2 by 2 are WRITTEN, 2 by 2 READ; edge 2: 2 by 2, 1 by 2; from 3 on 2 by 2, 1.
        for (int edge = 1; edge <= 16; edge++) {
            int e = edge;
            long due = edge == 1 ? 4 + 2 * 4 : edge == 2 ? 4 + 2 * 2 : 4 + 2;
            Twins.asked("22: cost(2, " + e + ")", Check::rich, x -> x.cost(2, e), due);
        }
    }

    private static void costFromTheCubeAsItIs() {
        CubeForms x = Check.cube("sides 4 4;cell 1 1:5;");
        Check.tellMix(x, "sum 0 15;add 0;sum 0 15;");
        for (int form = 0; form < 5; form++) {
            x.form(form);
            Check.due("22: LISTS, from form " + form, x.cost(4, 0), 1 + 3 + 4);
            Check.due("22: SUMS, from form " + form, x.cost(1, 0), 1 + 16 + 1);
        }
        x.add(15, 0);
        Check.due("22: an add of 0 is forgotten", x.cost(4, 0), 8);
        x.add(15, 1);
        Check.due("22: an add is not", x.cost(4, 0), 4 + 5 + 9);
        x.add(5, -5);
        Check.due("22: a VALUE that is 0 by now", x.cost(4, 0), 1 + 3 + 4);
        x.undo();
        Check.due("22: taken back", x.cost(4, 0), 4 + 5 + 9);
    }

    private static void cheapestIs(CubeForms x, String mix, int form, int edge) {
        Check.tellMix(x, mix);
        Check.due("23: cheapest(0) of " + mix, x.cheapest(0), form);
        Check.due("23: cheapest(1) of " + mix, x.cheapest(1), edge);
    }

    private static void cheapestOfSeveral() {
        CubeForms x = Check.cube("sides 1;cell 0:1;");
        cheapestIs(x, "", 0, 1);
        cheapestIs(x, "add 0;sum 0 0;", 0, 1);
        cheapestIs(x, "add 1;", 0, 1);
        Check.tell(x, "sides 2;cell 0:1;cell 1:1;");
        // PLAIN and LISTS 2; SUMS, BOXES of one piece and TREE 1.
        cheapestIs(x, "sum 0 1;", 1, 2);
        x.edge(1);
        Check.due("23: still the first", x.cheapest(0), 1);
        // PLAIN, LISTS 1 and 2; an add at 0 WRITES 2 in SUMS, BOXES and TREE.
        cheapestIs(x, "add 0;", 0, 1);
        cheapestIs(x, "add 1;", 0, 1);
        Check.tell(x, "sides 2;");
        // Nothing is USED: LISTS READS nothing.
        cheapestIs(x, "sum 0 1;", 4, 2);
        cheapestIs(x, "sum 0 0;", 4, 1);
        cheapestIs(x, "add 0;sum 0 0;", 0, 1);
    }

    private static void cheapestByTheEdge() {
        StringBuilder text = new StringBuilder("sides 16;");
        for (int p = 0; p < 16; p++) {
            text.append("cell ").append(p).append(":1;");
        }
        CubeForms x = Check.cube(text.toString());
        // Of all 16 one piece is the best; of 15 edge 15 is as good and comes ahead.
        cheapestIs(x, "sum 0 15;", 1, 16);
        cheapestIs(x, "sum 0 14;", 1, 15);
        cheapestIs(x, "add 15;", 0, 1);
        // An add at 0 in BOXES: by edge 4 four within and three ahead; by 3 and by 5 eight.
        cheapestIs(x, "add 0;", 0, 4);
        // By edge 4: 3 * (2 + 1) + 3 * (4 + 2); TREE 30.
        Check.tellMix(x, "again 3[sum 3 14;];again 3[add 4;];");
        Check.due("23: by edge 4", x.cheapest(0), 2);
        x.edge(16);
        Check.due("23: by edge 16", x.cheapest(0), 3);
        for (int what : new int[] {-1, 2, MOST, LEAST}) {
            Twins.refused("23: cheapest(" + what + ")", Check::rich,
                    c -> c.cheapest(what), Check.ARGUMENT);
        }
        Twins.asked("23: cheapest(0)", Check::rich, c -> c.cheapest(0), 1);
        Twins.asked("23: cheapest(1)", Check::rich, c -> c.cheapest(1), 3);
    }
}
