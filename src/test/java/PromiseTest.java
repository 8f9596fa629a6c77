/** One part for each promise of the document, with answers worked out by hand. */
public final class PromiseTest {
    /** Rows of three: 5 0 0 / 0 0 -2 / 0 0 1 / 0 7 0. */
    private static final String FOUR_BY_THREE =
            "sides 4 3;cell 0 0:5;cell 1 2:-2;cell 3 1:7;cell 2 2:1;";
    private static final int MOST = Integer.MAX_VALUE;

    private PromiseTest() {
    }

    public static void main(String[] args) {
        newObject();
        feed();
        text();
        textFaults();
        mix();
        mixFaults();
        fault();
        form();
        edge();
        add();
        grow();
        fold();
        undo();
        undoAndMix();
        told();
        side();
        valueAndAt();
        number();
        sum();
        reads();
        writes();
        slab();
        other();
        cost();
        costOfLists();
        costStops();
        cheapest();
        window();
        least();
        print();
        status();
        orderOfExceptions();
        refusalsChangeNothing();
        askingChangesNothing();
        greatestCube();
        Check.end("PromiseTest");
    }

    private static void newObject() {
        CubeForms x = new CubeForms();
        int[] want = {1, 1, 0, 4, 1, 0, 0, 0, 0, 0};
        for (int what = 0; what < want.length; what++) {
            Check.due("1: told(" + what + ")", x.told(what), want[what]);
        }
        Check.due("1: side(0, 0)", x.side(0, 0), 1);
        Check.due("1: value(0)", x.value(0), 0);
        Check.due("1: fault()", x.fault(), CubeForms.NONE);
        Check.due("1: undo()", x.undo(), CubeForms.NONE);
        Check.due("1: NONE", CubeForms.NONE, -1);
        for (int what = 0; what < 3; what++) {
            Check.due("1: status(" + what + ")", x.status(what), 0);
        }
    }

    private static void feed() {
        CubeForms x = new CubeForms();
        for (int i = 1; i <= 20; i++) {
            Check.due("2: feed no. " + i, x.feed(0, -1, i, 0, 0), 20 * i);
        }
        Check.due("2: a 401st byte", x.feed(0, 0, 0, 0, 0), CubeForms.NONE);
        Check.due("2: bytes stay", x.told(8), 400);
        x = new CubeForms();
        // The highest byte of each number comes first: "side" is 0x73696465.
        x.feed(0x73696465, 0x73203220, 0x333B0000, 0, 0);
        Check.due("2: the order of bytes", x.text(10), 6);
    }

    private static void text() {
        CubeForms x = Check.cube(FOUR_BY_THREE);
        Check.due("3: places", x.told(1), 12);
        Check.due("3: sides", x.told(0), 2);
        Check.due("3: a value", x.value(5), -2);
        Check.due("3: told again the last counts",
                Check.tell(x, "sides 2;cell 1:5;cell 1:-1000000000;cell 0:1;cell 0:0;"), 2);
        Check.due("3: the last", x.value(1), -1000000000);
        Check.due("3: the last, 0", x.value(0), 0);
        Check.due("3: blanks anywhere ahead of all, none needed",
                Check.tell(x, "  sides  02 3 ; cell1 0002 :  -  07 ;cell 0 0:000000000000004;  "),
                6);
        Check.due("3: with blanks", x.value(5), -7);
        Check.due("3: with noughts", x.value(0), 4);
        Check.due("3: 512 places", Check.tell(x, "sides 16 2 16 1;"), 512);
        Check.due("3: four sides", x.told(0), 4);
        Check.due("3: values are gone", x.told(6), 0);
        Check.due("3: - 0", Check.tell(x, "sides 1;cell 0:-0;"), 1);
        Check.due("3: - 0 is 0", x.value(0), 0);
        textTakesTheTape();
        textAndForm();
    }

    private static void textTakesTheTape() {
        CubeForms x = new CubeForms();
        int n = Check.put(x, "sides 3;");
        Check.refused("3: n -1", () -> x.text(-1), Check.ARGUMENT);
        Check.refused("3: n 21", () -> x.text(21), Check.ARGUMENT);
        Check.due("3: the tape stays", x.told(8), 20);
        Check.due("3: after a refusal", x.text(n), 3);
        Check.due("3: the tape is empty", x.told(8), 0);
        Check.due("3: no byte", x.text(0), -9);
        Check.due("3: no byte, where", x.fault(), 0);
        Check.put(x, "sides 3 ; cell 9:1;");
        Check.due("3: a fault", x.text(20), -8);
        Check.due("3: a fault takes the tape", x.told(8), 0);
        Check.due("3: the cube stays", x.told(1), 3);
        Check.due("3: a fault is no act", x.told(9), 1);
    }

    private static void textAndForm() {
        CubeForms x = Check.cube("sides 3;cell 1:4;");
        x.edge(2);
        x.form(4);
        Check.tellMix(x, "add 1;");
        Check.tell(x, "sides 3;cell 9:1;");
        Check.due("3: form stays with a fault", x.told(2), 4);
        Check.due("3: mix stays with a fault", x.told(7), 1);
        Check.tell(x, "sides 3;");
        Check.due("3: form is PLAIN", x.told(2), 0);
        Check.due("3: edge stays", x.told(3), 2);
        Check.due("3: mix is gone", x.told(7), 0);
        Check.due("3: an act", x.told(9), 4);
    }

    private static void textFault(String text, int kind, int place) {
        CubeForms x = Check.cube("sides 2;cell 1:9;");
        Check.due("3: text " + text, Check.tell(x, text), kind - 10);
        Check.due("3: fault of " + text, x.fault(), place);
        Check.due("3: cube stays with " + text, x.value(1), 9);
    }

    private static void textFaults() {
        textFault("", 1, 0);
        textFault("   ", 1, 3);
        textFault("side 2;", 1, 0);
        textFault(" sidess 2;", 1, 1);
        textFault("sidesz 2;", 1, 0);
        textFault("Sides 2;", 1, 0);
        textFault("sides;", 1, 5);
        textFault("sides", 1, 5);
        textFault("sides 2  ", 1, 9);
        textFault("sides 2:", 1, 7);
        textFault("sides 2 x;", 1, 8);
        textFault("sides -2;", 1, 6);
        textFault("sides 0;", 2, 6);
        textFault("sides 17;", 2, 6);
        textFault("sides 99999999999999999999 2;", 2, 6);
        textFault("sides 4294967298;", 2, 6);
        textFault("sides 1 1 1 1 1;", 3, 14);
        textFault("sides 1 1 1 1 17;", 2, 14);
        textFault("sides 8 8 8 1 2;", 3, 14);
        textFault("sides 16 16 3;", 4, 12);
        textFault("sides 16 16 17;", 2, 12);
        textFault("sides 16 16 3 x", 4, 12);
        textFault("sides 2;;", 1, 8);
        textFault("sides 2;cel 1:1;", 1, 8);
        textFault("sides 2;cells 1:1;", 1, 8);
        textFault("sides 2;cell 2:1;", 2, 13);
        textFault("sides 2;cell :1;", 1, 13);
        textFault("sides 2;cell 1 1:1;", 1, 15);
        textFault("sides 2;cell 1 99:1;", 1, 15);
        textFault("sides 2 2;cell 1:1;", 1, 16);
        textFault("sides 2 2;cell 1 2:1;", 2, 17);
        textFault("sides 2;cell 1;", 1, 14);
        textFault("sides 2;cell 1:;", 1, 15);
        textFault("sides 2;cell 1:--1;", 1, 16);
        textFault("sides 2;cell 1:+1;", 1, 15);
        textFault("sides 2;cell 1:1000000001;", 2, 15);
        textFault("sides 2;cell 1: - 1000000001;", 2, 18);
        textFault("sides 2;cell 1:99999999999999999999999;", 2, 15);
        textFault("sides 2;cell 1:1 2;", 1, 17);
        textFault("sides 2;cell 1:1", 1, 16);
        textFault("sides 2;cell 1:1;sides 2;", 1, 17);
        textFault("sides 2;\tcell 1:1;", 1, 8);
        textFault("sides 2;" + (char) 233, 1, 8);
        textFault("sides 2;" + (char) 160, 1, 8);
        textFault("sides 2;cell 5:1;cell 1", 2, 13);
    }

    private static void mix() {
        CubeForms x = Check.cube("sides 5;");
        Check.due("4: no step", Check.tellMix(x, ""), 0);
        Check.due("4: blanks alone", Check.tellMix(x, "   "), 0);
        Check.due("4: steps", Check.tellMix(x, "add0;sum 0 511;again 3[add 2;again 60[];];"), 5);
        Check.due("4: told(7)", x.told(7), 5);
        Check.due("4: three deep", Check.tellMix(x, "again 1[again 1[again 0[add 1;];];];"), 4);
        Check.due("4: blanks", Check.tellMix(x, " again 2 [ sum 1 2 ; ] ; "), 2);
        Check.due("4: no act", x.told(9), 1);
        Check.due("4: forty", Check.tellMix(x, "add1;".repeat(40)), 40);
        for (int i = 0; i < 16; i++) {
            x.feed(0x20202020, 0x20202020, 0x20202020, 0x20202020, 0x20202020);
        }
        Check.refused("4: n -1", () -> x.mix(-1), Check.ARGUMENT);
        Check.refused("4: n 301", () -> x.mix(301), Check.ARGUMENT);
        Check.refused("4: n 321", () -> x.mix(321), Check.ARGUMENT);
        Check.due("4: the tape stays", x.told(8), 320);
        Check.due("4: the mix stays", x.told(7), 40);
        Check.due("4: n 300", x.mix(300), 0);
        Check.due("4: the tape is empty", x.told(8), 0);
        Check.refused("4: more than there is", () -> x.mix(1), Check.ARGUMENT);
        Check.due("4: n 0 of no tape", x.mix(0), 0);
    }

    private static void mixFault(String text, int kind, int place) {
        CubeForms x = Check.cube("sides 5;");
        Check.tellMix(x, "add 1;add 2;");
        Check.due("4: mix " + text, Check.tellMix(x, text), kind - 10);
        Check.due("4: fault of " + text, x.fault(), place);
        Check.due("4: mix stays with " + text, x.told(7), 2);
        Check.due("4: cost stays with " + text, x.cost(0, 0), 2);
        Check.due("4: tape is empty with " + text, x.told(8), 0);
    }

    private static void mixFaults() {
        String forty = "add1;".repeat(40);
        mixFault("add", 1, 3);
        mixFault("add 1", 1, 5);
        mixFault("add;", 1, 3);
        mixFault("add -1;", 1, 4);
        mixFault("add 512;", 2, 4);
        mixFault("add 1 2;", 1, 6);
        mixFault("adds 1;", 1, 0);
        mixFault("sum 1;", 1, 5);
        mixFault("sum 1 512;", 2, 6);
        mixFault("sum 1 2 3;", 1, 8);
        mixFault("again 61[];", 2, 6);
        mixFault("again [];", 1, 6);
        mixFault("again 1 add 1;", 1, 8);
        mixFault("again 1[add 1;]", 1, 15);
        mixFault("again 1[add 1];", 1, 13);
        mixFault("again 1[add 1;", 1, 14);
        mixFault("again 1[add 1;  ", 1, 16);
        mixFault("];", 1, 0);
        mixFault("again 1[];];", 1, 10);
        mixFault("again 2[again 2[again 2[again 2[add 1;];];];];", 3, 31);
        mixFault("again 2[again 2[again 2[again 61[add 1;];];];];", 2, 30);
        mixFault("again 2[again 2[again 2[again 2 add 1;];];];", 1, 32);
        mixFault(forty + "add1;", 4, 200);
        mixFault(forty + " again 70[", 4, 201);
        mixFault(forty + "addx 1;", 1, 200);
        mixFault(forty + ";", 1, 200);
        mixFault("again1[" + "add1;".repeat(40) + "];", 4, 202);
        mixFault("cell 1;", 1, 0);
    }

    private static void fault() {
        CubeForms x = new CubeForms();
        Check.due("5: ahead of any", x.fault(), -1);
        Check.tell(x, "sides 2 ?;");
        Check.due("5: of a text", x.fault(), 8);
        Check.refused("5: a call that throws", () -> x.text(5), Check.ARGUMENT);
        Check.refused("5: a call that throws", () -> x.mix(5), Check.ARGUMENT);
        Check.due("5: stays then", x.fault(), 8);
        Check.tellMix(x, "add 0;");
        Check.due("5: none of the latest", x.fault(), -1);
        Check.tellMix(x, "add 0;+");
        Check.due("5: of a mix", x.fault(), 6);
        Check.tell(x, "sides 2;");
        Check.due("5: none of a text", x.fault(), -1);
        x.undo();
        Check.due("5: undo does not touch it", x.fault(), -1);
    }

    private static void form() {
        CubeForms x = Check.cube(FOUR_BY_THREE);
        x.edge(2);
        int[] want = {12, 12, 20, 12, 12};
        for (int form = 0; form < 5; form++) {
            Check.due("6: form(" + form + ")", x.form(form), want[form]);
            Check.due("6: is taken on", x.told(2), form);
        }
        Check.tell(x, "sides 3 3;cell 1 1:5;");
        Check.due("6: LISTS", x.form(4), 1);
        x.add(0, 0);
        x.add(4, -5);
        Check.due("6: an add of 0 makes USED", x.told(4), 4);
        Check.due("6: anew, no VALUE left", x.form(4), 0);
        Check.due("6: acts", x.told(9), 8);
        Check.refused("6: -1", () -> x.form(-1), Check.ARGUMENT);
        Check.refused("6: 5", () -> x.form(5), Check.ARGUMENT);
    }

    private static void edge() {
        CubeForms x = Check.cube("sides 16;cell 3:1;cell 9:2;");
        Check.due("7: what it was", x.edge(16), 4);
        Check.due("7: and again", x.edge(1), 16);
        Check.due("7: BOXES of edge 1", x.form(2), 31);
        Check.due("7: back", x.edge(5), 1);
        Check.due("7: BOXES as they are now", x.told(4), 19);
        Check.due("7: ahead of the last piece", x.number(18), 3);
        Check.due("7: ahead of the second piece", x.number(16), 1);
        Check.refused("7: 0", () -> x.edge(0), Check.ARGUMENT);
        Check.refused("7: 17", () -> x.edge(17), Check.ARGUMENT);
        Check.due("7: an act, too if the same", x.edge(5), 5);
        Check.due("7: acts", x.told(9), 6);
    }

    private static void add() {
        CubeForms x = Check.cube("sides 4 3;");
        Check.due("8: PLAIN", x.add(5, 7), 1);
        x.form(1);
        Check.due("8: SUMS", x.add(5, 1), 3);
        Check.due("8: SUMS, all", x.add(0, 1), 12);
        x.form(2);
        x.edge(2);
        Check.due("8: BOXES", x.add(0, 1), 9);
        x.form(3);
        Check.due("8: TREE", x.add(0, 1), 6);
        x.form(4);
        Check.due("8: LISTS, a new row of two", x.add(11, 0), 2);
        Check.due("8: LISTS, none new", x.add(11, 3), 1);
        Check.due("8: the value", x.value(5), 8);
        Check.due("8: the value", x.value(0), 3);
        x.add(1, MOST);
        x.add(2, Integer.MIN_VALUE);
        Check.refused("8: above", () -> x.add(1, 1), Check.STATE);
        Check.refused("8: below", () -> x.add(2, -1), Check.STATE);
        Check.due("8: both ends", x.add(1, Integer.MIN_VALUE) + x.add(2, MOST), 2);
        Check.due("8: -1", x.value(1) + x.value(2), -2);
        Check.refused("8: no place", () -> x.add(12, 1), Check.NO_SUCH);
        Check.refused("8: no place", () -> x.add(-1, 1), Check.NO_SUCH);
    }

    private static void grow() {
        CubeForms x = Check.cube(FOUR_BY_THREE);
        Check.due("9: PLAIN", x.grow(1, 2), 20);
        Check.due("9: values stay where they were", x.value(1 * 5 + 2), -2);
        Check.due("9: the same", x.value(3 * 5 + 1), 7);
        Check.due("9: all of them", x.told(6), 4);
        Check.due("9: the sum", x.sum(0, 19), 11);
        x.form(2);
        Check.due("9: BOXES", x.grow(0, 1), 6 * 6);
        x.form(4);
        Check.due("9: LISTS", x.grow(0, 11), 12);
        Check.due("9: USED is what was", x.side(0, 2), 4);
        Check.due("9: LENGTH", x.side(0, 0), 16);
        Check.refused("9: above 16", () -> x.grow(0, 1), Check.STATE);
        Check.refused("9: n 0", () -> x.grow(0, 0), Check.ARGUMENT);
        Check.refused("9: n 16", () -> x.grow(1, 16), Check.ARGUMENT);
        Check.refused("9: no side", () -> x.grow(2, 1), Check.NO_SUCH);
        Check.due("9: to the most", Check.tell(x, "sides 16 1 16;"), 256);
        Check.due("9: 512 places", x.grow(1, 1), 512);
        Check.refused("9: 768 places", () -> x.grow(1, 1), Check.STATE);
        CubeForms y = new CubeForms();
        Check.due("9: by 15", y.grow(0, 15), 16);
        growOfUsed();
    }

    private static void growOfUsed() {
        CubeForms x = Check.cube("sides 2 2;cell 0 0:1;");
        x.form(4);
        x.add(0, -1);
        Check.due("9: USED though 0 by now", x.grow(1, 3), 1);
        Check.due("9: a new x comes new", x.writes(4), 1);
        Check.due("9: a new row, too", x.add(9, 1), 3);
        Check.tellMix(x, "add 0;");
        x.grow(0, 1);
        Check.due("9: mix is gone", x.told(7), 0);
    }

    private static void fold() {
        CubeForms x = Check.cube(FOUR_BY_THREE);
        x.form(4);
        x.add(3, 0);
        Check.tellMix(x, "add 0;");
        Check.due("10: the first side", x.fold(0), 3);
        Check.due("10: added up", x.value(0), 5);
        Check.due("10: added up", x.value(1), 7);
        Check.due("10: added up", x.value(2), -1);
        Check.due("10: form stays", x.told(2), 4);
        Check.due("10: mix is gone", x.told(7), 0);
        Check.refused("10: the only one", () -> x.fold(0), Check.STATE);
        Check.refused("10: none such", () -> x.fold(1), Check.NO_SUCH);
        x.undo();
        Check.due("10: the last side", x.fold(1), 4);
        Check.due("10: added up", x.value(1), -2);
        Check.due("10: added up", x.value(3), 7);
        Check.tell(x, "sides 2 3 2;cell 0 1 0:1;cell 0 2 0:-1;cell 1 2 1:4;");
        x.form(4);
        Check.due("10: a middle side, then USED anew", x.fold(1), 4);
        Check.due("10: LENGTH of the last", x.side(1, 0), 2);
        Check.due("10: USED", x.told(4), 1);
        Check.due("10: the value", x.value(3), 4);
        foldThatDoesNotFit();
    }

    private static void foldThatDoesNotFit() {
        CubeForms x = Check.cube("sides 2 3;");
        x.add(3, MOST);
        x.add(4, 1);
        x.add(5, -1);
        Check.due("10: only what it comes to counts", x.fold(1), 2);
        Check.due("10: it fits", x.value(1), MOST);
        x.undo();
        x.add(5, 1);
        Check.refused("10: it does not fit", () -> x.fold(1), Check.STATE);
        Check.due("10: sides stay", x.told(0), 2);
        Check.due("10: the other side fits", x.fold(0), 3);
        x.undo();
        x.add(0, Integer.MIN_VALUE);
        x.add(3, Integer.MIN_VALUE);
        Check.refused("10: below", () -> x.fold(0), Check.STATE);
    }

    private static void undo() {
        CubeForms x = new CubeForms();
        for (int i = 1; i <= 10; i++) {
            x.add(0, 1 << i);
        }
        Check.due("11: eight at most", x.told(9), 8);
        for (int i = 7; i >= 0; i--) {
            Check.due("11: left", x.undo(), i);
            Check.due("11: value", x.value(0), (1 << i + 3) - 2);
        }
        Check.due("11: none", x.undo(), -1);
        Check.due("11: value", x.value(0), 6);
        Check.due("11: undo is no act", x.told(9), 0);
        x.add(0, 1);
        Check.due("11: goes on", x.undo(), 0);
        undoOfEachAct();
        undoAndNewActs();
    }

    private static void undoOfEachAct() {
        CubeForms x = Check.cube(FOUR_BY_THREE);
        long[] wholes = new long[8];
        x.form(4);
        Runnable[] acts = {() -> x.add(3, 0), () -> x.grow(0, 2), () -> x.edge(3),
            () -> x.form(2), () -> x.fold(1), () -> Check.tell(x, "sides 2 2 2;cell 1 1 1:9;")};
        for (int i = 0; i < acts.length; i++) {
            wholes[i] = Check.whole(x);
            acts[i].run();
        }
        for (int i = acts.length - 1; i >= 0; i--) {
            x.undo();
            Check.due("11: all is back ahead of act " + i, Check.whole(x), wholes[i]);
        }
        Check.due("11: LISTS as it was", x.told(4), 12);
        x.undo();
        x.undo();
        Check.due("11: as at first", x.told(1), 1);
    }

    private static void undoAndNewActs() {
        CubeForms x = new CubeForms();
        for (int i = 0; i < 8; i++) {
            x.add(0, 1);
        }
        x.undo();
        x.undo();
        x.undo();
        x.add(0, 100);
        Check.due("11: five and one", x.told(9), 6);
        x.undo();
        Check.due("11: what was taken back stays so", x.value(0), 5);
        Check.due("11: left", x.undo(), 4);
        Check.due("11: value", x.value(0), 4);
    }

    private static void undoAndMix() {
        CubeForms x = Check.cube("sides 4;");
        Check.tellMix(x, "add 1;");
        x.add(0, 1);
        x.undo();
        Check.due("11: mix is not touched", x.told(7), 1);
        Check.tell(x, "sides 4;cell 1:1;");
        Check.tellMix(x, "add 1;add 2;");
        x.undo();
        Check.due("11: sides are the same, mix stays", x.told(7), 2);
        x.grow(0, 1);
        Check.tellMix(x, "add 1;");
        x.undo();
        Check.due("11: sides are others, mix is gone", x.told(7), 0);
        Check.tellMix(x, "add 1;");
        x.undo();
        Check.due("11: a text of other sides", x.told(7), 0);
        Check.tell(x, "sides 4 1;");
        x.fold(1);
        Check.tellMix(x, "add 1;");
        x.undo();
        Check.due("11: another count of sides", x.told(7), 0);
        Check.due("11: and no cost", x.cost(0, 0), 0);
    }

    private static void told() {
        CubeForms x = Check.cube(FOUR_BY_THREE);
        x.form(2);
        x.edge(3);
        Check.tellMix(x, "add 1;");
        Check.put(x, "x");
        int[] want = {2, 12, 2, 3, 15, 0, 4, 1, 20, 3};
        for (int what = 0; what < want.length; what++) {
            Check.due("12: told(" + what + ")", x.told(what), want[what]);
        }
        Check.refused("12: -1", () -> x.told(-1), Check.ARGUMENT);
        Check.refused("12: 10", () -> x.told(10), Check.ARGUMENT);
        Check.tell(x, "sides 2;");
        Check.tell(x, "sides 3;cell 0:1000000000;cell 1:1000000000;cell 2:1000000000;");
        x.form(1);
        Check.due("12: OVER", x.told(5), 1);
        x.add(0, 147483647);
        Check.due("12: the greatest fits", x.told(5), 1);
        Check.due("12: it is", x.number(1), MOST);
        x.add(1, 1);
        Check.due("12: more does not", x.told(5), 2);
        Check.tell(x, "sides 2;cell 0:-1000000000;cell 1:-1000000000;");
        x.form(1);
        x.add(1, -147483648);
        Check.due("12: the least fits", x.told(5), 0);
        x.add(1, -1);
        Check.due("12: less does not", x.told(5), 1);
    }

    private static void side() {
        CubeForms x = Check.cube("sides 5 8;cell 1 1:3;cell 3 1:4;");
        Check.due("13: LENGTH", x.side(1, 0), 8);
        Check.due("13: PIECES", x.side(0, 1), 2);
        Check.due("13: PIECES", x.side(1, 1), 2);
        Check.due("13: all are USED", x.side(0, 2), 5);
        x.edge(7);
        Check.due("13: PIECES", x.side(0, 1), 1);
        x.form(4);
        Check.due("13: USED", x.side(0, 2), 2);
        Check.due("13: USED", x.side(1, 2), 1);
        Check.due("13: LENGTH in LISTS", x.side(1, 0), 8);
        Check.refused("13: side 2", () -> x.side(2, 0), Check.NO_SUCH);
        Check.refused("13: side -1", () -> x.side(-1, 0), Check.NO_SUCH);
        Check.refused("13: what 3", () -> x.side(0, 3), Check.ARGUMENT);
        Check.refused("13: what -1", () -> x.side(0, -1), Check.ARGUMENT);
    }

    private static void valueAndAt() {
        CubeForms x = Check.cube("sides 2 3 4;cell 1 2 3:-8;");
        Check.due("14: value", x.value(23), -8);
        Check.due("14: 0 at first", x.value(22), 0);
        Check.refused("14: 24", () -> x.value(24), Check.NO_SUCH);
        Check.refused("14: -1", () -> x.value(-1), Check.NO_SUCH);
        Check.due("15: at", x.at(22, 0), 1);
        Check.due("15: at", x.at(18, 1), 1);
        Check.due("15: at", x.at(18, 2), 2);
        Check.refused("15: place", () -> x.at(24, 0), Check.NO_SUCH);
        Check.refused("15: side", () -> x.at(0, 3), Check.NO_SUCH);
        Check.refused("15: side", () -> x.at(0, -1), Check.NO_SUCH);
    }

    private static void numbers(CubeForms x, int form, long... want) {
        Check.due("16: form(" + form + ")", x.form(form), want.length);
        long print = 0;
        for (int k = 0; k < want.length; k++) {
            Check.due("16: form " + form + " number(" + k + ")", x.number(k), want[k]);
            print = print * 31 + want[k];
        }
        Check.due("26: print in form " + form, x.print(), print);
        Check.refused("16: none such", () -> x.number(want.length), Check.NO_SUCH);
        Check.refused("16: none such", () -> x.number(-1), Check.NO_SUCH);
    }

    private static void number() {
        CubeForms x = Check.cube(FOUR_BY_THREE);
        x.edge(2);
        numbers(x, 0, 5, 0, 0, 0, 0, -2, 0, 0, 1, 0, 7, 0);
        numbers(x, 1, 5, 5, 5, 5, 5, 3, 5, 5, 4, 5, 12, 11);
        numbers(x, 2, 5, 5, 0, 5, 5, -2, 0, 0, 1, 0, 7, 1, 5, 5, -2, 5, 5, 0, 7, 5);
        numbers(x, 3, 5, 5, 0, 5, 5, -2, 0, 0, 1, 5, 12, -1);
        Check.tell(x, "sides 5 5;cell 1 1:3;cell 4 3:4;");
        numbers(x, 4, 3, 0, 0, 4);
        Check.tell(x, "sides 7;cell 0:1;cell 1:2;cell 2:4;cell 3:8;cell 4:16;cell 5:32;cell 6:64;");
        numbers(x, 3, 1, 3, 4, 15, 16, 48, 64);
        x.edge(3);
        numbers(x, 2, 1, 3, 7, 8, 24, 56, 64, 7, 63);
        Check.tell(x, "sides 3;");
        numbers(x, 4);
    }

    private static void sum() {
        CubeForms x = Check.cube(FOUR_BY_THREE);
        for (int form = 0; form < 5; form++) {
            x.form(form);
            Check.due("17: all", x.sum(0, 11), 11);
            Check.due("17: some", x.sum(3, 8), -1);
            Check.due("17: one", x.sum(10, 10), 7);
            Check.due("17: a column", x.sum(1, 10), 7);
        }
        Check.refused("17: none", () -> x.sum(5, 3), Check.ARGUMENT);
        Check.refused("17: none, though later", () -> x.sum(2, 3), Check.ARGUMENT);
        Check.refused("17: no place", () -> x.sum(12, 0), Check.NO_SUCH);
        Check.refused("17: no place", () -> x.sum(5, -1), Check.NO_SUCH);
        CubeForms y = Check.cube("sides 2 2 2;");
        for (int p = 0; p < 8; p++) {
            y.add(p, MOST);
        }
        Check.due("17: a long", y.sum(0, 7), 8L * MOST);
    }

    private static void reads() {
        CubeForms x = Check.cube(FOUR_BY_THREE);
        x.edge(2);
        int[] all = {12, 1, 4, 2, 12};
        int[] some = {3, 4, 6, 4, 3};
        for (int form = 0; form < 5; form++) {
            x.form(form);
            Check.due("18: all, form " + form, x.reads(0, 11), all[form]);
            Check.due("18: (1,1) to (3,1), form " + form, x.reads(4, 10), some[form]);
        }
        x.form(1);
        Check.due("18: only one side has something ahead", x.reads(3, 8), 2);
        Check.tell(x, "sides 16;");
        x.form(3);
        Check.due("18: TREE, x 14 is made of four", x.reads(0, 14), 4);
        Check.due("18: TREE, each corner for itself", x.reads(14, 14), 4 + 3);
        x.form(2);
        Check.due("18: BOXES, each corner for itself", x.reads(14, 14), 2 + 2);
        x.form(4);
        Check.due("18: LISTS, none is USED", x.reads(0, 15), 0);
        Check.refused("18: none", () -> x.reads(5, 3), Check.ARGUMENT);
        Check.refused("18: no place", () -> x.reads(0, 16), Check.NO_SUCH);
    }

    private static void writes() {
        CubeForms x = Check.cube(FOUR_BY_THREE);
        x.edge(2);
        int[] first = {1, 12, 9, 6, 1};
        int[] fifth = {1, 3, 2, 2, 1};
        int[] last = {1, 1, 1, 1, 1};
        for (int form = 0; form < 5; form++) {
            x.form(form);
            Check.due("19: 0, form " + form, x.writes(0), first[form]);
            Check.due("19: 5, form " + form, x.writes(5), fifth[form]);
            Check.due("19: 11, form " + form, x.writes(11), last[form]);
        }
        Check.tell(x, "sides 5 5;cell 1 1:3;cell 3 1:4;");
        x.form(4);
        Check.due("19: LISTS, both new", x.writes(0), 3 * 2 - 2);
        Check.due("19: LISTS, one new", x.writes(1), 1);
        Check.due("19: nothing is USED by it", x.told(4), 2);
        Check.refused("19: 25", () -> x.writes(25), Check.NO_SUCH);
    }

    private static void slab() {
        CubeForms x = Check.cube(FOUR_BY_THREE);
        Check.due("20: a row", x.slab(0, 1), -2);
        Check.due("20: a column", x.slab(1, 2), -1);
        Check.due("20: the first row", x.slab(0, 0), 5);
        Check.due("20: the last row", x.slab(0, 3), 7);
        x.form(4);
        Check.due("20: in LISTS", x.slab(1, 0), 5);
        Check.refused("20: x", () -> x.slab(1, 3), Check.NO_SUCH);
        Check.refused("20: x", () -> x.slab(1, -1), Check.NO_SUCH);
        Check.refused("20: side", () -> x.slab(2, 0), Check.NO_SUCH);
    }

    private static void other() {
        CubeForms x = Check.cube("sides 3 3;");
        x.add(0, MOST);
        x.add(4, MOST);
        x.form(4);
        x.add(8, 0);
        x.edge(2);
        int[] keeps = {9, 9, 16, 9, 4};
        int[] over = {0, 4, 4, 1, 0};
        for (int form = 0; form < 5; form++) {
            Check.due("21: other(" + form + ", 0)", x.other(form, 0), keeps[form]);
            Check.due("21: other(" + form + ", 1)", x.other(form, 1), over[form]);
        }
        Check.due("21: USED stays", x.told(4), 9);
        Check.refused("21: form", () -> x.other(5, 0), Check.ARGUMENT);
        Check.refused("21: what", () -> x.other(0, 2), Check.ARGUMENT);
        Check.refused("21: what", () -> x.other(0, -1), Check.ARGUMENT);
    }

    private static void cost() {
        CubeForms x = Check.cube("sides 5;");
        Check.due("22: no mix", x.cost(0, 0), 0);
        Check.tellMix(x, "add 0;sum 0 4;again 3[add 2;];");
        int[] want = {9, 15, 0, 11};
        for (int form = 0; form < 4; form++) {
            if (form != 2) {
                Check.due("22: form " + form, x.cost(form, 0), want[form]);
            }
        }
        int[] byEdge = {16, 15, 12, 16, 15, 15};
        for (int edge = 1; edge <= byEdge.length; edge++) {
            Check.due("22: edge " + edge, x.cost(2, edge), byEdge[edge - 1]);
        }
        Check.due("22: edge 16", x.cost(2, 16), 15);
        Check.refused("22: edge 0 of BOXES", () -> x.cost(2, 0), Check.ARGUMENT);
        Check.refused("22: edge 17 of BOXES", () -> x.cost(2, 17), Check.ARGUMENT);
        Check.refused("22: edge 1 of others", () -> x.cost(1, 1), Check.ARGUMENT);
        Check.refused("22: form 5", () -> x.cost(5, 0), Check.ARGUMENT);
        Check.refused("22: form -1", () -> x.cost(-1, 0), Check.ARGUMENT);
        Check.tellMix(x, "add 5;sum 0 5;sum 4 0;sum 511 511;add 4;");
        Check.due("22: left out", x.cost(1, 0), 1);
        Check.tell(x, "sides 2 2;");
        Check.tellMix(x, "sum 1 2;sum 0 3;");
        Check.due("22: no such box", x.cost(0, 0), 4);
    }

    private static void costOfLists() {
        CubeForms x = Check.cube("sides 5 5;cell 1 1:3;cell 3 1:4;");
        x.form(4);
        x.add(24, 0);
        Check.tellMix(x, "sum 0 24;add 0;sum 0 24;add 0;again 2[add 24;];");
        // 2 are READ; 4 come new; 6 are READ; 1; 6 come new (4 by 3), then 1.
        Check.due("22: LISTS, taken on anew", x.cost(4, 0), 2 + 4 + 6 + 1 + 6 + 1);
        Check.due("22: the same once more", x.cost(4, 0), 20);
        Check.due("22: USED stays", x.told(4), 6);
    }

    private static void costStops() {
        CubeForms x = Check.cube("sides 5;");
        Check.tellMix(x, "again 50[again 40[add 4;];];add 0;");
        Check.due("22: 2,000 steps", x.cost(1, 0), 2000);
        Check.due("22: 2,000 steps of LISTS", x.cost(4, 0), 2000);
        Check.tellMix(x, "again 50[again 39[add 9;];];again 50[sum 3 1;];add 0;");
        Check.due("22: such as are left out count", x.cost(1, 0), 0);
        Check.tellMix(x, "again 50[again 39[add 9;];];again 49[sum 3 1;];add 0;add 0;");
        Check.due("22: only the 2,000th is left", x.cost(1, 0), 5);
        Check.tellMix(x, "again 60[again 60[again 60[];];];add 0;");
        Check.due("22: \"again\" is no step", x.cost(1, 0), 5);
        Check.tellMix(x, "again 60[again 60[again 60[add 4;sum 1 1;];];];");
        Check.due("22: cut within", x.cost(1, 0), 1000 * 3);
        Check.tellMix(x, "again 0[add 0;];again 2[again 0[add 0;];add 4;];");
        Check.due("22: no time at all", x.cost(1, 0), 2);
    }

    private static void cheapest() {
        CubeForms x = Check.cube("sides 5;cell 1:1;cell 2:1;");
        Check.due("23: no mix, the first", x.cheapest(0), 0);
        Check.due("23: no mix, the least", x.cheapest(1), 1);
        Check.tellMix(x, "add 0;sum 0 4;again 3[add 2;];");
        Check.due("23: form", x.cheapest(0), 4);
        Check.due("23: edge", x.cheapest(1), 3);
        Check.tellMix(x, "again 30[sum 0 4;];add 0;");
        Check.due("23: SUMS", x.cheapest(0), 1);
        Check.due("23: one piece", x.cheapest(1), 5);
        x.edge(5);
        Check.due("23: of several the first", x.cheapest(0), 1);
        Check.tell(x, "sides 16;");
        x.add(0, 1);
        for (int p = 1; p < 16; p++) {
            x.add(p, 1);
        }
        Check.tellMix(x, "again 4[sum 0 15;];again 2[add 0;];");
        // PLAIN 66, SUMS 36, TREE 14, LISTS 66; BOXES of edge 4: 4 * 2 + 2 * 7.
        x.edge(4);
        Check.due("23: TREE", x.cheapest(0), 3);
        Check.tellMix(x, "again 3[sum 3 14;];again 3[add 4;];");
        // PLAIN, LISTS 39, SUMS 42, TREE 30; BOXES of edge 4: 27, of edge 16: 42.
        Check.due("23: BOXES by the edge as it is", x.cheapest(0), 2);
        x.edge(16);
        Check.due("23: by another edge", x.cheapest(0), 3);
        Check.refused("23: 2", () -> x.cheapest(2), Check.ARGUMENT);
        Check.refused("23: -1", () -> x.cheapest(-1), Check.ARGUMENT);
    }

    private static void window() {
        CubeForms x = Check.cube(FOUR_BY_THREE);
        Check.due("24: one place", x.window(0), 10);
        Check.due("24: a row of two, the first of two", x.window(1), 9);
        Check.due("24: a row", x.window(2), 9);
        Check.due("24: a column of two", x.window(3), 7);
        Check.due("24: two by two", x.window(4), 7);
        Check.due("24: all", x.window(11), 0);
        Check.refused("24: 12", () -> x.window(12), Check.NO_SUCH);
        Check.refused("24: -1", () -> x.window(-1), Check.NO_SUCH);
        CubeForms y = Check.cube("sides 3;cell 0:-5;cell 1:-4;cell 2:-4;");
        Check.due("24: all below 0", y.window(0), 1);
    }

    private static void least(CubeForms x, long much, int places, int begin, int end) {
        Check.due("25: least(" + much + ", 0)", x.least(much, 0), places);
        Check.due("25: least(" + much + ", 1)", x.least(much, 1), begin);
        Check.due("25: least(" + much + ", 2)", x.least(much, 2), end);
    }

    private static void least() {
        CubeForms x = Check.cube(FOUR_BY_THREE);
        least(x, 5, 1, 0, 0);
        least(x, 6, 1, 10, 10);
        least(x, 8, 4, 7, 11);
        least(x, 12, 8, 0, 10);
        least(x, 11, 8, 0, 10);
        least(x, 13, -1, -1, -1);
        least(x, Long.MIN_VALUE, 1, 0, 0);
        least(x, Long.MAX_VALUE, -1, -1, -1);
        CubeForms y = Check.cube("sides 2 2;cell 0 0:1;cell 0 1:1;cell 1 0:1;");
        least(y, 2, 2, 0, 1);
        least(y, 3, 4, 0, 3);
        Check.refused("25: 3", () -> x.least(0, 3), Check.ARGUMENT);
        Check.refused("25: -1", () -> x.least(0, -1), Check.ARGUMENT);
        CubeForms z = Check.cube("sides 3;cell 0:-1;cell 1:-2;cell 2:-3;");
        least(z, -2, 1, 0, 0);
        least(z, 0, -1, -1, -1);
    }

    private static void print() {
        CubeForms x = Check.cube("sides 3;cell 0:2;cell 1:-3;cell 2:5;");
        Check.due("26: PLAIN", x.print(), (2 * 31 - 3) * 31 + 5);
        x.form(1);
        Check.due("26: SUMS", x.print(), (2 * 31 - 1) * 31 + 4);
        Check.tell(x, "sides 2;");
        x.form(4);
        Check.due("26: nothing", x.print(), 0);
        Check.tell(x, "sides 16 2;cell 0 0:1000000000;");
        long all = 1000000000;
        for (int i = 1; i < 32; i++) {
            all *= 31;
        }
        Check.due("26: wraps around", x.print(), all);
    }

    private static void status() {
        CubeForms x = new CubeForms();
        Check.thrownBy(() -> x.value(1));
        Check.thrownBy(() -> x.at(0, 1));
        Check.thrownBy(() -> x.told(-1));
        Check.thrownBy(() -> x.fold(0));
        x.add(0, MOST);
        Check.thrownBy(() -> x.add(0, 1));
        Check.thrownBy(() -> x.grow(0, 1 << 31));
        Check.thrownBy(() -> x.number(7));
        Check.due("27: no such", x.status(0), 3);
        Check.due("27: argument", x.status(1), 2);
        Check.due("27: state", x.status(2), 2);
        Check.due("27: others", x.status(3), -1);
        Check.due("27: others", x.status(-1), -1);
        x.undo();
        Check.due("27: undo does not touch it", x.status(0), 3);
    }

    private static void orderOfExceptions() {
        CubeForms x = Check.cube("sides 2;");
        x.add(0, MOST);
        Check.refused("add: place first", () -> x.add(2, MOST), Check.NO_SUCH);
        Check.refused("grow: side first", () -> x.grow(1, 0), Check.NO_SUCH);
        Check.refused("grow: n behind it", () -> x.grow(0, 16), Check.ARGUMENT);
        Check.refused("grow: then what it is", () -> x.grow(0, 15), Check.STATE);
        Check.refused("fold: side first", () -> x.fold(1), Check.NO_SUCH);
        Check.refused("side: side first", () -> x.side(1, 9), Check.NO_SUCH);
        Check.refused("sum: place first", () -> x.sum(1, 2), Check.NO_SUCH);
        Check.refused("sum: place first", () -> x.sum(2, 0), Check.NO_SUCH);
        Check.refused("reads: place first", () -> x.reads(-1, -2), Check.NO_SUCH);
        Check.due("each counts once", x.status(0), 7);
        Check.due("each counts once", x.status(1), 1);
        Check.due("each counts once", x.status(2), 1);
    }

    private static void refusalsChangeNothing() {
        CubeForms x = Check.cube(FOUR_BY_THREE);
        x.form(4);
        x.add(3, MOST);
        Check.tellMix(x, "add 1;sum 0 11;");
        Check.put(x, "sides 1;");
        long whole = Check.whole(x);
        Check.Call[] calls = {() -> x.text(21), () -> x.mix(21), () -> x.form(9), () -> x.edge(0),
            () -> x.add(3, 1), () -> x.add(12, 0), () -> x.grow(0, 13), () -> x.grow(0, 0),
            () -> x.grow(4, 1), () -> x.fold(2), () -> x.told(99), () -> x.side(0, 5),
            () -> x.value(99), () -> x.at(0, 9), () -> x.number(99), () -> x.sum(8, 3),
            () -> x.reads(8, 3), () -> x.writes(-5), () -> x.slab(0, 4), () -> x.other(0, 5),
            () -> x.cost(0, 1), () -> x.cheapest(5), () -> x.window(12), () -> x.least(0, 9)};
        for (int i = 0; i < calls.length; i++) {
            Check.due("call " + i + " throws", Check.thrownBy(calls[i]) == Check.NOTHING ? 1 : 0, 0);
            Check.due("nothing is changed by call " + i, Check.whole(x), whole);
        }
        Check.due("all are counted", x.status(0) + x.status(1) + x.status(2), calls.length);
    }

    private static void askingChangesNothing() {
        CubeForms x = Check.cube(FOUR_BY_THREE);
        x.form(4);
        x.add(0, -5);
        Check.tellMix(x, "add 1;again 3[sum 0 11;add 7;];");
        long whole = Check.whole(x);
        Check.Call[] calls = {x::fault, () -> x.told(5), () -> x.side(1, 2), () -> x.value(1),
            () -> x.at(7, 1), () -> x.number(1), () -> x.sum(0, 4), () -> x.reads(0, 4),
            () -> x.writes(1), () -> x.slab(1, 1), () -> x.other(4, 0), () -> x.other(2, 1),
            () -> x.cost(4, 0), () -> x.cost(2, 9), () -> x.cheapest(0), () -> x.cheapest(1),
            () -> x.window(4), () -> x.least(3, 0), x::print, () -> x.status(0)};
        for (int i = 0; i < calls.length; i++) {
            Check.due("asked", Check.thrownBy(calls[i]), Check.NOTHING);
            Check.due("nothing is changed by asking " + i, Check.whole(x), whole);
        }
    }

    /** The most NUMBERS that there can be, and the most boxes. */
    private static void greatestCube() {
        CubeForms x = Check.cube("sides 4 4 4 8;");
        x.edge(1);
        Check.due("most numbers", x.form(2), 7 * 7 * 7 * 15);
        for (int p = 0; p < 200; p++) {
            x.add(p * 2, MOST);
        }
        Check.due("all of them", x.sum(0, 511), 200L * MOST);
        // Ahead of the last piece on each side: up to the place 2 2 2 6.
        Check.due("the last number", x.number(5144), x.sum(0, 342));
        x = Check.cube("sides 16 16 2;");
        Check.due("no box", x.least(1, 0), -1);
        x.add(511, 1);
        Check.due("the last box", x.least(1, 1), 511);
        x.add(0, 1);
        least(x, 2, 512, 0, 511);
    }
}
