/**
 * The boundaries of the five FORMS (promises 6, 7, 13, 16, 18, 19, 21 and 26, and '==== 2.'): the
 * first and last x, the first and last PIECE, the longest part of the tree, nothing and all USED,
 * NUMBERS at the ends of 32 bits.
 *
 * The VALUE at place p is 1 << p in most of these cubes, so that a NUMBER tells its PLACES.
 */
public final class FormBoundaryTest {
    private static final int MOST = Integer.MAX_VALUE;
    private static final int LEAST = Integer.MIN_VALUE;

    private FormBoundaryTest() {
    }

    public static void main(String[] args) {
        formsFrom0To4();
        edgesFrom1To16();
        piecesOfEachEdge();
        plain();
        sumsAtTheFirstAndLast();
        sumsOfMoreSides();
        boxesOfEdge1();
        boxesOfOnePiece();
        boxesWithAShortPiece();
        boxesInOrder();
        boxesOfEachEdge();
        treeOfSixteen();
        treeOfFifteen();
        treeOfMoreSides();
        listsOfNothing();
        listsOfAll();
        listsRise();
        listsComeNew();
        listsReadAtTheEnds();
        listsTakenOnAnew();
        overAtTheEnds();
        overOfEachForm();
        otherForms();
        oneSideOfOne();
        Check.end("FormBoundaryTest");
    }

    /** A cube whose VALUE at place p is 1 << p; up to 31 places. */
    private static CubeForms powers(String sides) {
        CubeForms x = Check.cube("sides " + sides + ";");
        for (int p = 0; p < x.told(1); p++) {
            x.add(p, 1 << p);
        }
        return x;
    }

    private static void numbers(String what, CubeForms x, long... want) {
        Check.due(what + ": how many", x.told(4), want.length);
        long print = 0;
        for (int k = 0; k < Math.min(want.length, x.told(4)); k++) {
            Check.due(what + ": number(" + k + ")", x.number(k), want[k]);
            print = 31 * print + want[k];
        }
        Check.due(what + ": print()", x.print(), print);
        Check.refused(what + ": number(-1)", () -> x.number(-1), Check.NO_SUCH);
        Check.refused(what + ": one too many", () -> x.number(want.length), Check.NO_SUCH);
    }

    private static void writes(String what, CubeForms x, int... want) {
        for (int p = 0; p < want.length; p++) {
            Check.due(what + ": writes(" + p + ")", x.writes(p), want[p]);
            Check.due(what + ": add(" + p + ", 0)", x.add(p, 0), want[p]);
        }
    }

    /** What SUMS from place 0 to each place READ. */
    private static void readsFrom0(String what, CubeForms x, int... want) {
        for (int p = 0; p < want.length; p++) {
            Check.due(what + ": reads(0, " + p + ")", x.reads(0, p), want[p]);
        }
    }

    /** What SUMS of one place READ. */
    private static void readsOfOne(String what, CubeForms x, int... want) {
        for (int p = 0; p < want.length; p++) {
            Check.due(what + ": reads(" + p + ", " + p + ")", x.reads(p, p), want[p]);
            Check.due(what + ": sum(" + p + ", " + p + ")", x.sum(p, p), x.value(p));
        }
    }

    private static CubeForms rich() {
        CubeForms x = Check.cube("sides 2 3;cell 1 2:9;cell 0 1:-4;");
        x.edge(2);
        x.form(4);
        x.add(3, 0);
        Check.tellMix(x, "add 1;again 2[sum 0 5;];");
        return x;
    }

    private static void formsFrom0To4() {
        int[] keeps = {6, 6, 2 * 4, 6, 4};
        for (int form = 0; form < 5; form++) {
            CubeForms x = rich();
            int f = form;
            Twins.answered("6: form(" + form + ")", x, c -> c.form(f), keeps[form]);
            Check.due("6: told(2)", x.told(2), form);
            Check.due("6: an act", x.told(9), 5);
            Twins.answered("6: the same again", x, c -> c.form(f), keeps[form]);
            Check.due("6: an act, too", x.told(9), 6);
        }
        for (int form : new int[] {-1, 5, 6, MOST, LEAST}) {
            Twins.refused("6: form(" + form + ")", FormBoundaryTest::rich, x -> x.form(form),
                    Check.ARGUMENT);
        }
    }

    private static void edgesFrom1To16() {
        CubeForms x = rich();
        int was = 2;
        for (int n : new int[] {1, 16, 15, 2, 2}) {
            int e = n;
            Twins.answered("7: edge(" + n + ")", x, c -> c.edge(e), was);
            Check.due("7: told(3)", x.told(3), n);
            Check.due("7: the form stays", x.told(2), 4);
            was = n;
        }
        Check.due("7: at first", new CubeForms().edge(4), 4);
        for (int n : new int[] {0, -1, 17, 18, MOST, LEAST}) {
            Twins.refused("7: edge(" + n + ")", FormBoundaryTest::rich, c -> c.edge(n),
                    Check.ARGUMENT);
        }
    }

    private static void piecesOfEachEdge() {
        int[] of16 = {16, 8, 6, 4, 4, 3, 3, 2, 2, 2, 2, 2, 2, 2, 2, 1};
        int[] of15 = {15, 8, 5, 4, 3, 3, 3, 2, 2, 2, 2, 2, 2, 2, 1, 1};
        CubeForms x = Check.cube("sides 16 1 15;");
        for (int form = 0; form < 5; form += 2) {
            x.form(form);
            for (int edge = 1; edge <= 16; edge++) {
                x.edge(edge);
                Check.due("13: PIECES of 16 by " + edge, x.side(0, 1), of16[edge - 1]);
                Check.due("13: PIECES of 1 by " + edge, x.side(1, 1), 1);
                Check.due("13: PIECES of 15 by " + edge, x.side(2, 1), of15[edge - 1]);
            }
        }
    }

    private static void plain() {
        CubeForms x = powers("3 3");
        numbers("0", x, 1, 2, 4, 8, 16, 32, 64, 128, 256);
        writes("0", x, 1, 1, 1, 1, 1, 1, 1, 1, 1);
        readsFrom0("0", x, 1, 2, 3, 2, 4, 6, 3, 6, 9);
        readsOfOne("0", x, 1, 1, 1, 1, 1, 1, 1, 1, 1);
        Check.tell(x, "sides 16 16 2;");
        Check.due("0: the most is READ", x.reads(0, 511), 512);
        Check.due("0: the last one", x.reads(511, 511), 1);
        Check.due("0: the last one is WRITTEN", x.add(511, 1), 1);
        Check.due("0: the last NUMBER", x.number(511), 1);
    }

    private static void sumsAtTheFirstAndLast() {
        CubeForms x = powers("5");
        x.form(1);
        numbers("1", x, 1, 3, 7, 15, 31);
        writes("1", x, 5, 4, 3, 2, 1);
        readsFrom0("1", x, 1, 1, 1, 1, 1);
        readsOfOne("1", x, 1, 2, 2, 2, 2);
        Check.due("1: behind a begin", x.reads(1, 4), 2);
        Check.tell(x, "sides 16 16 2;");
        x.form(1);
        Check.due("1: all are WRITTEN", x.writes(0), 512);
        Check.due("1: the last is WRITTEN", x.writes(511), 1);
    }

    private static void sumsOfMoreSides() {
        CubeForms x = powers("2 2 2 2");
        x.form(1);
        for (int p = 0; p < 16; p++) {
            // Each SIDE that begins at 1 has something ahead.
            Check.due("1: corners of place " + p, x.reads(p, p), 1 << Integer.bitCount(p));
            Check.due("1: corners to the end from " + p, x.reads(p, 15), 1 << Integer.bitCount(p));
            Check.due("1: WRITTEN at " + p, x.writes(p), 1 << 4 - Integer.bitCount(p));
        }
        Check.due("1: the sum of all", x.number(15), 65535);
        Check.due("1: NUMBER 5", x.number(5), 1 + 2 + 16 + 32);
    }

    private static void boxesOfEdge1() {
        CubeForms x = powers("5");
        x.edge(1);
        x.form(2);
        numbers("2, edge 1", x, 1, 2, 4, 8, 16, 1, 3, 7, 15);
        writes("2, edge 1", x, 5, 4, 3, 2, 1);
        readsFrom0("2, edge 1", x, 1, 2, 2, 2, 2);
        readsOfOne("2, edge 1", x, 1, 3, 4, 4, 4);
        Check.tell(x, "sides 4 4 4 8;");
        Check.due("2: the most NUMBERS", x.form(2), 7 * 7 * 7 * 15);
        // From 2 2 2 2 on: on each SIDE two for the end, two for what is ahead.
        Check.due("2: the most is READ", x.reads(2 * 128 + 2 * 32 + 2 * 8 + 2, 511), 256);
        Check.due("2: the most is WRITTEN", x.writes(0), 512);
        Check.due("2: the last one", x.writes(511), 1);
    }

    private static void boxesOfOnePiece() {
        CubeForms x = powers("5");
        x.form(2);
        for (int edge : new int[] {5, 6, 16}) {
            x.edge(edge);
            numbers("2, edge " + edge, x, 1, 3, 7, 15, 31);
            writes("2, edge " + edge, x, 5, 4, 3, 2, 1);
            readsFrom0("2, edge " + edge, x, 1, 1, 1, 1, 1);
            readsOfOne("2, edge " + edge, x, 1, 2, 2, 2, 2);
        }
    }

    private static void boxesWithAShortPiece() {
        CubeForms x = powers("5");
        x.form(2);
        x.edge(4);
        numbers("2, edge 4", x, 1, 3, 7, 15, 16, 15);
        writes("2, edge 4", x, 5, 4, 3, 2, 1);
        readsFrom0("2, edge 4", x, 1, 1, 1, 1, 2);
        readsOfOne("2, edge 4", x, 1, 2, 2, 2, 3);
        x.edge(3);
        numbers("2, edge 3", x, 1, 3, 7, 8, 24, 7);
        writes("2, edge 3", x, 4, 3, 2, 2, 1);
        readsFrom0("2, edge 3", x, 1, 1, 1, 2, 2);
        readsOfOne("2, edge 3", x, 1, 2, 2, 3, 4);
        x.edge(2);
        numbers("2, edge 2", x, 1, 3, 4, 12, 16, 3, 15);
        writes("2, edge 2", x, 4, 3, 3, 2, 1);
        readsFrom0("2, edge 2", x, 1, 1, 2, 2, 2);
        readsOfOne("2, edge 2", x, 1, 2, 3, 4, 4);
    }

    private static void boxesInOrder() {
        CubeForms x = powers("2 2 2");
        x.edge(1);
        x.form(2);
        numbers("2, eight choices", x,
                1, 2, 4, 8, 16, 32, 64, 128,
                1, 2, 4, 8,
                1, 2, 16, 32,
                1, 2,
                1, 4, 16, 64,
                1, 4,
                1, 16,
                1);
        x.edge(2);
        numbers("2, one choice alone", x, 1, 3, 5, 15, 17, 51, 85, 255);
        x = powers("3 2");
        x.edge(2);
        x.form(2);
        // Rows 0 and 1 are a PIECE, row 2 another one; the columns are one.
        numbers("2, two choices", x, 1, 3, 5, 15, 16, 48, 5, 15);
        x = powers("1 3");
        x.edge(1);
        x.form(2);
        numbers("2, a SIDE of one x has no PIECE but the first", x, 1, 2, 4, 1, 3);
    }

    private static void boxesOfEachEdge() {
        for (int n = 1; n <= 16; n++) {
            CubeForms x = powers("" + n);
            x.form(2);
            for (int edge = 1; edge <= 16; edge++) {
                x.edge(edge);
                int pieces = (n + edge - 1) / edge;
                Check.due("2: NUMBERS of " + n + " by " + edge, x.told(4), n + pieces - 1);
                for (int p = 0; p < n; p++) {
                    int begin = p - p % edge;
                    Check.due("2: within a PIECE", x.number(p), (2L << p) - (1L << begin));
                    Check.due("2: READ to " + p, x.reads(0, p), p < edge ? 1 : 2);
                    int within = Math.min(begin + edge, n) - p;
                    int ahead = pieces - 1 - p / edge;
                    Check.due("2: WRITTEN at " + p, x.writes(p), within + ahead);
                }
                for (int piece = 1; piece < pieces; piece++) {
                    Check.due("2: ahead of PIECE " + piece, x.number(n + piece - 1),
                            (1L << piece * edge) - 1);
                }
            }
        }
    }

    private static void treeOfSixteen() {
        CubeForms x = powers("16");
        x.form(3);
        numbers("3", x, 1, 3, 4, 15, 16, 48, 64, 255, 256, 768, 1024, 3840, 4096, 12288, 16384,
                65535);
        writes("3", x, 5, 4, 4, 3, 4, 3, 3, 2, 4, 3, 3, 2, 3, 2, 2, 1);
        readsFrom0("3", x, 1, 1, 2, 1, 2, 2, 3, 1, 2, 2, 3, 2, 3, 3, 4, 1);
        readsOfOne("3", x, 1, 2, 3, 3, 3, 4, 5, 4, 3, 4, 5, 5, 5, 6, 7, 5);
    }

    private static void treeOfFifteen() {
        CubeForms x = powers("15");
        x.form(3);
        numbers("3, of 15", x, 1, 3, 4, 15, 16, 48, 64, 255, 256, 768, 1024, 3840, 4096, 12288,
                16384);
        writes("3, of 15", x, 4, 3, 3, 2, 3, 2, 2, 1, 3, 2, 2, 1, 2, 1, 1);
        x.grow(0, 1);
        Check.due("3: one x more, all are in it", x.number(15), 32767);
        Check.due("3: one more is WRITTEN", x.writes(0), 5);
    }

    private static void treeOfMoreSides() {
        CubeForms x = powers("4 3");
        x.form(3);
        numbers("3, of 4 by 3", x, 1, 3, 4, 9, 27, 36, 64, 192, 256, 585, 1755, 2340);
        writes("3, of 4 by 3", x, 6, 3, 3, 4, 2, 2, 4, 2, 2, 2, 1, 1);
        readsFrom0("3, of 4 by 3", x, 1, 1, 2, 1, 1, 2, 2, 2, 4, 1, 1, 2);
    }

    private static void listsOfNothing() {
        for (String sides : new String[] {"1", "16", "4 4", "2 2 2 2", "16 16 2"}) {
            CubeForms x = Check.cube("sides " + sides + ";");
            Check.due("4: none is kept", x.form(4), 0);
            Check.due("4: told(4)", x.told(4), 0);
            Check.due("4: OVER", x.told(5), 0);
            Check.due("4: other", x.other(4, 0), 0);
            Check.due("4: print()", x.print(), 0);
            Check.due("4: READS", x.reads(0, x.told(1) - 1), 0);
            Check.due("4: SUM", x.sum(0, x.told(1) - 1), 0);
            Check.refused("4: number(0)", () -> x.number(0), Check.NO_SUCH);
            for (int s = 0; s < x.told(0); s++) {
                Check.due("4: USED", x.side(s, 2), 0);
            }
            int last = x.told(1) - 1;
            Check.due("4: the first comes new", x.writes(last), 1);
            Check.due("4: the first comes new", x.add(last, 0), 1);
            Check.due("4: then there is one", x.told(4), 1);
            Check.due("4: though it is 0", x.number(0), 0);
            Check.due("4: then none is new, 1 at least", x.add(last, 5), 1);
            Check.due("4: still one", x.told(4), 1);
            Check.due("4: it is READ", x.reads(0, last), 1);
        }
    }

    private static void listsOfAll() {
        CubeForms x = powers("4 3");
        Check.due("4: all are USED", x.form(4), 12);
        numbers("4", x, 1, 2, 4, 8, 16, 32, 64, 128, 256, 512, 1024, 2048);
        writes("4", x, 1, 1, 1, 1, 1, 1, 1, 1, 1, 1, 1, 1);
        readsFrom0("4", x, 1, 2, 3, 2, 4, 6, 3, 6, 9, 4, 8, 12);
        Check.tell(x, "sides 16 16 2;");
        for (int i = 0; i < 16; i++) {
            x.add(i * 34 % 512, 1);
        }
        x.add(511, 1);
        Check.due("4: all of the most", x.form(4), 512);
        Check.due("4: all are READ", x.reads(0, 511), 512);
        Check.due("4: the last NUMBER", x.number(511), x.value(511));
    }

    private static void listsRise() {
        CubeForms x = Check.cube("sides 5 5;");
        x.form(4);
        x.add(24, 1);
        x.add(12, 2);
        x.add(3, 4);
        // x of SIDE 0: 0 2 4, of SIDE 1: 2 3 4.
        numbers("4, rising", x, 0, 4, 0, 2, 0, 0, 0, 0, 1);
        Check.due("4: USED", x.side(0, 2), 3);
        Check.due("4: USED", x.side(1, 2), 3);
        x.add(24, -1);
        numbers("4, USED though 0", x, 0, 4, 0, 2, 0, 0, 0, 0, 0);
    }

    private static void listsComeNew() {
        CubeForms x = Check.cube("sides 3 3 3;");
        x.form(4);
        int[][] adds = {
            // The place, how many come new: 1, then 2 by 1 by 1, and so on to 3 by 3 by 3.
            {0, 1}, {9, 1}, {3, 2}, {1, 4}, {13, 1}, {26, 27 - 8}, {14, 1}, {0, 1}};
        for (int[] add : adds) {
            Check.due("4: writes(" + add[0] + ")", x.writes(add[0]), add[1]);
            Check.due("4: writes() once more", x.writes(add[0]), add[1]);
            Check.due("4: add(" + add[0] + ", 0)", x.add(add[0], 0), add[1]);
        }
        Check.due("4: all by now", x.told(4), 27);
        Check.due("4: no VALUE", x.told(6), 0);
    }

    private static void listsReadAtTheEnds() {
        CubeForms x = Check.cube("sides 16;cell 0:1;cell 7:2;cell 15:4;");
        x.form(4);
        int[][] boxes = {{0, 15, 3}, {0, 0, 1}, {15, 15, 1}, {1, 14, 1}, {1, 15, 2}, {0, 14, 2},
            {7, 7, 1}, {8, 14, 0}, {1, 6, 0}, {6, 7, 1}, {7, 8, 1}};
        long[] sums = {7, 1, 4, 2, 6, 3, 2, 0, 0, 2, 2};
        for (int i = 0; i < boxes.length; i++) {
            int[] box = boxes[i];
            Check.due("4: reads(" + box[0] + ", " + box[1] + ")", x.reads(box[0], box[1]), box[2]);
            Check.due("4: sum(" + box[0] + ", " + box[1] + ")", x.sum(box[0], box[1]), sums[i]);
        }
    }

    private static void listsTakenOnAnew() {
        CubeForms x = Check.cube("sides 3 3;cell 1 1:5;");
        x.form(4);
        x.add(0, 0);
        Check.due("4: an add of 0", x.told(4), 4);
        Check.due("4: other(4, 0) is taken on now", x.other(4, 0), 1);
        Check.due("4: grown, USED is what was", x.grow(0, 1), 4);
        Check.due("4: anew", x.form(4), 1);
        x.add(0, 0);
        x.form(0);
        Check.due("4: all x are USED in others", x.side(0, 2), 4);
        Check.due("4: behind another form", x.form(4), 1);
        x.form(1);
        x.add(11, 0);
        Check.due("4: an add of 0 in SUMS makes nothing USED", x.form(4), 1);
        x.add(4, -5);
        Check.due("4: USED stays with a VALUE that is 0 by now", x.told(4), 1);
        Check.due("4: anew, nothing", x.form(4), 0);
    }

    private static void overOf(String what, int value, int more, int want) {
        CubeForms x = Check.cube("sides 2;");
        x.add(0, value);
        x.add(1, more);
        x.edge(2);
        for (int form = 0; form < 5; form++) {
            boolean sums = form != 0 && form != 4;
            Check.due("21: " + what + " in form " + form, x.other(form, 1), sums ? want : 0);
            x.form(form);
            Check.due("12: " + what + " in form " + form, x.told(5), sums ? want : 0);
        }
    }

    private static void overAtTheEnds() {
        overOf("2^31 less 1", MOST, 0, 0);
        overOf("2^31 less 1 in two", MOST - 1, 1, 0);
        overOf("2^31", MOST, 1, 1);
        overOf("two times the most", MOST, MOST, 1);
        overOf("- 2^31", LEAST, 0, 0);
        overOf("- 2^31 in two", LEAST + 1, -1, 0);
        overOf("- 2^31 less 1", LEAST, -1, 1);
        overOf("two times the least", LEAST, LEAST, 1);
        overOf("both", MOST, LEAST, 0);
        CubeForms x = Check.cube("sides 4;");
        for (int p = 0; p < 4; p++) {
            x.add(p, LEAST);
        }
        Check.due("12: 2^32 below 0 is 0 in 32 bits", x.other(1, 1), 3);
        x.form(1);
        Check.due("16: the NUMBER itself", x.number(3), 4L * LEAST);
        Check.due("17: the SUM", x.sum(0, 3), 4L * LEAST);
        Check.due("20: the slab", x.slab(0, 3), LEAST);
    }

    private static void overOfEachForm() {
        CubeForms x = Check.cube("sides 16;");
        for (int p = 0; p < 16; p++) {
            x.add(p, MOST);
        }
        x.edge(4);
        // In TREE all but those of one x; in BOXES three of each PIECE and those ahead.
        int[] want = {0, 15, 12 + 3, 8, 0};
        for (int form = 0; form < 5; form++) {
            Check.due("21: OVER in form " + form, x.other(form, 1), want[form]);
            x.form(form);
            Check.due("12: OVER in form " + form, x.told(5), want[form]);
        }
        x.edge(1);
        Check.due("21: OVER by edge 1", x.other(2, 1), 14);
        x.edge(16);
        Check.due("21: OVER by edge 16", x.other(2, 1), 15);
    }

    private static void otherForms() {
        for (int form = 0; form < 5; form++) {
            int f = form;
            int[] keeps = {6, 6, 8, 6, 4};
            Twins.asked("21: other(" + form + ", 0)", FormBoundaryTest::rich, x -> x.other(f, 0),
                    keeps[form]);
            Twins.asked("21: other(" + form + ", 1)", FormBoundaryTest::rich, x -> x.other(f, 1),
                    0);
            for (int what : new int[] {-1, 2, MOST, LEAST}) {
                Twins.refused("21: other(" + form + ", " + what + ")", FormBoundaryTest::rich,
                        x -> x.other(f, what), Check.ARGUMENT);
            }
        }
        for (int form : new int[] {-1, 5, MOST, LEAST}) {
            for (int what = -1; what <= 2; what++) {
                int w = what;
                Twins.refused("21: other(" + form + ", " + what + ")", FormBoundaryTest::rich,
                        x -> x.other(form, w), Check.ARGUMENT);
            }
        }
    }

    private static void oneSideOfOne() {
        CubeForms x = new CubeForms();
        x.add(0, 7);
        for (int form = 0; form < 5; form++) {
            Check.due("6: one place, form " + form, x.form(form), 1);
            for (int edge : new int[] {1, 16}) {
                x.edge(edge);
                numbers("one place, form " + form, x, 7);
                writes("one place, form " + form, x, 1);
                readsOfOne("one place, form " + form, x, 1);
                Check.due("one place, PIECES", x.side(0, 1), 1);
                Check.due("one place, USED", x.side(0, 2), 1);
            }
        }
    }
}
