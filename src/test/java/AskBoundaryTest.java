/**
 * The boundaries of what is asked (promises 1, 12 to 17, 20 and 24 to 27): the first and last
 * place, side, x and NUMBER, a box of one place and of all, none, several that are as good.
 */
public final class AskBoundaryTest {
    private static final int MOST = Integer.MAX_VALUE;
    private static final int LEAST = Integer.MIN_VALUE;
    /** Rows of three: 5 0 0 / 0 0 -2 / 0 0 1 / 0 7 0. */
    private static final String FOUR_BY_THREE =
            "sides 4 3;cell 0 0:5;cell 1 2:-2;cell 3 1:7;cell 2 2:1;";

    private AskBoundaryTest() {
    }

    public static void main(String[] args) {
        newObject();
        toldFrom0To9();
        toldAtTheMost();
        sideFrom0To2();
        placesAndX();
        boxes();
        sumsThatDoNotFitInto32Bits();
        slabs();
        windowOfAll();
        windowOfSeveral();
        windowThatIsBelow0();
        leastAtItsSum();
        leastOfSeveral();
        leastThatIsBelow0();
        leastOfLongs();
        printWrapsAround();
        statusFrom0To2();
        Check.end("AskBoundaryTest");
    }

    private static void newObject() {
        int[] told = {1, 1, 0, 4, 1, 0, 0, 0, 0, 0};
        for (int what = 0; what < told.length; what++) {
            int w = what;
            Twins.asked("1: told(" + what + ")", CubeForms::new, x -> x.told(w), told[what]);
        }
        Twins.asked("1: LENGTH", CubeForms::new, x -> x.side(0, 0), 1);
        Twins.asked("1: PIECES", CubeForms::new, x -> x.side(0, 1), 1);
        Twins.asked("1: USED", CubeForms::new, x -> x.side(0, 2), 1);
        Twins.asked("1: value(0)", CubeForms::new, x -> x.value(0), 0);
        Twins.asked("1: at(0, 0)", CubeForms::new, x -> x.at(0, 0), 0);
        Twins.asked("1: number(0)", CubeForms::new, x -> x.number(0), 0);
        Twins.asked("1: sum(0, 0)", CubeForms::new, x -> x.sum(0, 0), 0);
        Twins.asked("1: reads(0, 0)", CubeForms::new, x -> x.reads(0, 0), 1);
        Twins.asked("1: writes(0)", CubeForms::new, x -> x.writes(0), 1);
        Twins.asked("1: slab(0, 0)", CubeForms::new, x -> x.slab(0, 0), 0);
        Twins.asked("1: cost(0, 0)", CubeForms::new, x -> x.cost(0, 0), 0);
        Twins.asked("1: cheapest(0)", CubeForms::new, x -> x.cheapest(0), 0);
        Twins.asked("1: cheapest(1)", CubeForms::new, x -> x.cheapest(1), 1);
        Twins.asked("1: window(0)", CubeForms::new, x -> x.window(0), 0);
        Twins.asked("1: least(0, 0)", CubeForms::new, x -> x.least(0, 0), 1);
        Twins.asked("1: least(1, 0)", CubeForms::new, x -> x.least(1, 0), CubeForms.NONE);
        Twins.asked("1: print()", CubeForms::new, CubeForms::print, 0);
        Twins.asked("1: fault()", CubeForms::new, CubeForms::fault, CubeForms.NONE);
        int[] other = {1, 1, 1, 1, 0};
        for (int form = 0; form < 5; form++) {
            int f = form;
            Twins.asked("1: other", CubeForms::new, x -> x.other(f, 0), other[form]);
        }
    }

    private static void toldFrom0To9() {
        Twins.Maker maker = () -> {
            CubeForms x = Check.cube(FOUR_BY_THREE);
            x.edge(2);
            x.form(2);
            Check.tellMix(x, "add 1;again 2[];");
            Check.put(x, "sides");
            return x;
        };
        int[] want = {2, 12, 2, 2, 20, 0, 4, 2, 20, 3};
        for (int what = 0; what < want.length; what++) {
            int w = what;
            Twins.asked("12: told(" + what + ")", maker, x -> x.told(w), want[what]);
        }
        for (int what : new int[] {-1, 10, 11, MOST, LEAST}) {
            Twins.refused("12: told(" + what + ")", maker, x -> x.told(what), Check.ARGUMENT);
        }
    }

    private static void toldAtTheMost() {
        CubeForms x = Check.cube("sides 4 4 4 8;");
        for (int p = 0; p < 512; p++) {
            x.add(p, p % 2 == 0 ? 1 : -1);
        }
        x.edge(1);
        x.form(2);
        Check.tellMix(x, "add1;".repeat(40));
        Check.put(x, " ".repeat(400));
        int[] want = {4, 512, 2, 1, 7 * 7 * 7 * 15, 0, 512, 40, 400, 8};
        for (int what = 0; what < want.length; what++) {
            Check.due("12: the most of told(" + what + ")", x.told(what), want[what]);
        }
        x.add(511, 1);
        Check.due("12: one is 0 again", x.told(6), 511);
    }

    private static void sideFrom0To2() {
        Twins.Maker maker = () -> {
            CubeForms x = Check.cube("sides 5 8;cell 1 1:3;cell 3 1:4;");
            x.form(4);
            return x;
        };
        int[][] want = {{5, 2, 2}, {8, 2, 1}};
        for (int side = 0; side < 2; side++) {
            int s = side;
            for (int what = 0; what < 3; what++) {
                int w = what;
                Twins.asked("13: side(" + s + ", " + w + ")", maker, x -> x.side(s, w), want[s][w]);
            }
            for (int what : new int[] {-1, 3, MOST, LEAST}) {
                Twins.refused("13: side(" + s + ", " + what + ")", maker, x -> x.side(s, what),
                        Check.ARGUMENT);
            }
        }
        for (int side : new int[] {-1, 2, 3, 4, MOST, LEAST}) {
            for (int what : new int[] {0, 2, 3, -1}) {
                Twins.refused("13: side(" + side + ", " + what + ")", maker,
                        x -> x.side(side, what), Check.NO_SUCH);
            }
        }
        for (int form = 0; form < 4; form++) {
            CubeForms x = maker.make();
            x.form(form);
            Check.due("13: all are USED, but for LISTS", x.side(0, 2), 5);
            Check.due("13: all are USED, but for LISTS", x.side(1, 2), 8);
        }
    }

    private static void placesAndX() {
        String[] cubes = {"sides 1;", "sides 16;", "sides 3 5;", "sides 2 3 4;", "sides 2 3 1 4;",
            "sides 16 16 2;"};
        for (String sides : cubes) {
            CubeForms x = Check.cube(sides);
            int count = x.told(0);
            for (int p = 0; p < x.told(1); p++) {
                int number = 0;
                for (int s = 0; s < count; s++) {
                    int at = x.at(p, s);
                    Check.due("15: x is 0 to LENGTH less 1",
                            at >= 0 && at < x.side(s, 0) ? 1 : 0, 1);
                    number = number * x.side(s, 0) + at;
                }
                Check.due("15: NUMBER of a PLACE, as if digits", number, p);
            }
            Twins.Maker maker = () -> Check.cube(sides);
            int places = x.told(1);
            for (int p : new int[] {-1, places, 512, MOST, LEAST}) {
                Twins.refused("14: value(" + p + ")", maker, c -> c.value(p), Check.NO_SUCH);
                Twins.refused("15: at(" + p + ", 0)", maker, c -> c.at(p, 0), Check.NO_SUCH);
            }
            for (int s : new int[] {-1, count, 4, MOST, LEAST}) {
                Twins.refused("15: at(0, " + s + ")", maker, c -> c.at(0, s), Check.NO_SUCH);
            }
        }
    }

    /** In a cube of 2 by 2 by 2 there is a box, if the last place has all bits of the first. */
    private static void boxes() {
        Twins.Maker maker = () -> {
            CubeForms x = Check.cube("sides 2 2 2;");
            for (int p = 0; p < 8; p++) {
                x.add(p, 1 << p);
            }
            return x;
        };
        for (int from = 0; from < 8; from++) {
            for (int to = 0; to < 8; to++) {
                int a = from;
                int b = to;
                if ((from & ~to) != 0) {
                    Twins.refused("17: sum", maker, x -> x.sum(a, b), Check.ARGUMENT);
                    Twins.refused("18: reads", maker, x -> x.reads(a, b), Check.ARGUMENT);
                    continue;
                }
                long sum = 0;
                for (int p = 0; p < 8; p++) {
                    sum += (from & ~p) == 0 && (p & ~to) == 0 ? 1 << p : 0;
                }
                Twins.asked("17: sum", maker, x -> x.sum(a, b), sum);
                Twins.asked("18: reads", maker, x -> x.reads(a, b), Long.bitCount(sum));
            }
        }
        for (int p : new int[] {-1, 8, 512, MOST, LEAST}) {
            Twins.refused("17: sum to none", maker, x -> x.sum(0, p), Check.NO_SUCH);
            Twins.refused("17: sum from none", maker, x -> x.sum(p, 7), Check.NO_SUCH);
            Twins.refused("17: sum of none", maker, x -> x.sum(p, p), Check.NO_SUCH);
            Twins.refused("18: reads to none", maker, x -> x.reads(0, p), Check.NO_SUCH);
            Twins.refused("18: reads from none", maker, x -> x.reads(p, 7), Check.NO_SUCH);
            Twins.refused("18: reads of none", maker, x -> x.reads(p, p), Check.NO_SUCH);
        }
    }

    private static void sumsThatDoNotFitInto32Bits() {
        for (int value : new int[] {MOST, LEAST}) {
            CubeForms x = Check.cube("sides 16 16 2;");
            for (int p = 0; p < 512; p++) {
                x.add(p, value);
            }
            for (int form = 0; form < 5; form++) {
                x.form(form);
                Check.due("17: all", x.sum(0, 511), 512L * value);
                Check.due("17: one", x.sum(511, 511), value);
                Check.due("17: two", x.sum(510, 511), 2L * value);
                Check.due("20: a slab", x.slab(2, 1), 256L * value);
            }
            Check.due("25: all", x.least(512L * MOST, 0), value == MOST ? 512 : -1);
            Check.due("25: more than all", x.least(512L * MOST + 1, 0), -1);
        }
    }

    private static void slabs() {
        long[] rows = {5, -2, 1, 7};
        long[] columns = {5, 7, -1};
        for (int form = 0; form < 5; form++) {
            int f = form;
            Twins.Maker maker = () -> {
                CubeForms x = Check.cube(FOUR_BY_THREE);
                x.form(f);
                return x;
            };
            for (int i = 0; i < 4; i++) {
                int at = i;
                Twins.asked("20: slab(0, " + i + ")", maker, x -> x.slab(0, at), rows[i]);
            }
            for (int i = 0; i < 3; i++) {
                int at = i;
                Twins.asked("20: slab(1, " + i + ")", maker, x -> x.slab(1, at), columns[i]);
            }
            for (int at : new int[] {-1, 4, 16, MOST, LEAST}) {
                Twins.refused("20: slab(0, " + at + ")", maker, x -> x.slab(0, at), Check.NO_SUCH);
            }
            for (int at : new int[] {-1, 3, 4}) {
                Twins.refused("20: slab(1, " + at + ")", maker, x -> x.slab(1, at), Check.NO_SUCH);
            }
            for (int side : new int[] {-1, 2, 4, MOST, LEAST}) {
                Twins.refused("20: slab(" + side + ", 0)", maker, x -> x.slab(side, 0),
                        Check.NO_SUCH);
            }
        }
        CubeForms one = Check.cube("sides 3;cell 1:4;");
        Check.due("20: of one side", one.slab(0, 1), 4);
    }

    private static void windowOfAll() {
        for (int form = 0; form < 5; form++) {
            int f = form;
            Twins.Maker maker = () -> {
                CubeForms x = Check.cube(FOUR_BY_THREE);
                x.form(f);
                return x;
            };
            // Each shape, from one place to all; the sums are 7 7 7, 7 8 8, 7 7 6, 7 12 11.
            int[] begin = {10, 9, 9, 7, 7, 6, 4, 3, 3, 1, 0, 0};
            for (int place = 0; place < 12; place++) {
                int p = place;
                Twins.asked("24: window(" + place + ")", maker, x -> x.window(p), begin[place]);
            }
            for (int place : new int[] {-1, 12, 512, MOST, LEAST}) {
                Twins.refused("24: window(" + place + ")", maker, x -> x.window(place),
                        Check.NO_SUCH);
            }
        }
    }

    private static void window(String text, int shape, int begin) {
        CubeForms x = Check.cube(text);
        Check.due("24: window(" + shape + ") of " + text, x.window(shape), begin);
    }

    private static void windowOfSeveral() {
        window("sides 4;", 0, 0);
        window("sides 4;", 1, 0);
        window("sides 4;cell 1:1;cell 2:1;", 0, 1);
        window("sides 4;cell 1:1;", 1, 0);
        window("sides 4;cell 3:1;", 1, 2);
        window("sides 4;cell 3:1;", 2, 1);
        window("sides 4;cell 3:1;cell 0:1;", 1, 0);
        window("sides 4;cell 3:2;cell 0:1;", 1, 2);
        window("sides 2 2;cell 0 1:1;cell 1 0:1;", 0, 1);
        window("sides 2 2;cell 0 1:1;cell 1 0:1;", 1, 0);
        window("sides 2 2;cell 0 1:1;cell 1 1:1;", 2, 1);
        window("sides 2 2;cell 1 0:1;cell 1 1:1;", 1, 2);
    }

    private static void windowThatIsBelow0() {
        window("sides 3;cell 0:-5;cell 1:-4;cell 2:-4;", 0, 1);
        window("sides 3;cell 0:-5;cell 1:-4;cell 2:-4;", 1, 1);
        window("sides 3;cell 0:-5;cell 1:-4;cell 2:-4;", 2, 0);
        window("sides 1;cell 0:-1000000000;", 0, 0);
        CubeForms x = Check.cube("sides 2 2;");
        x.add(0, LEAST);
        x.add(1, LEAST);
        x.add(2, LEAST);
        x.add(3, LEAST);
        Check.due("24: all of the least", x.window(3), 0);
        Check.due("24: the first of them", x.window(1), 0);
        x.add(3, 1);
        Check.due("24: one more", x.window(1), 2);
        x.add(0, MOST);
        x.add(1, MOST);
        Check.due("24: more than 32 bits apart", x.window(1), 0);
    }

    private static void least(CubeForms x, long much, int places, int begin, int end) {
        Check.due("25: least(" + much + ", 0)", x.least(much, 0), places);
        Check.due("25: least(" + much + ", 1)", x.least(much, 1), begin);
        Check.due("25: least(" + much + ", 2)", x.least(much, 2), end);
    }

    private static void leastAtItsSum() {
        Twins.Maker maker = () -> Check.cube(FOUR_BY_THREE);
        CubeForms x = maker.make();
        for (int form = 0; form < 5; form++) {
            x.form(form);
            least(x, 5, 1, 0, 0);
            least(x, 6, 1, 10, 10);
            least(x, 7, 1, 10, 10);
            // 7 and 1 are in two by two, 5 and 7 in four by two, no box has more than 12.
            least(x, 8, 4, 7, 11);
            least(x, 9, 8, 0, 10);
            least(x, 12, 8, 0, 10);
            least(x, 13, -1, -1, -1);
        }
        for (int what = 0; what < 3; what++) {
            int w = what;
            int[] want = {4, 7, 11};
            Twins.asked("25: least(8, " + what + ")", maker, c -> c.least(8, w), want[what]);
            Twins.asked("25: least(13, " + what + ")", maker, c -> c.least(13, w), CubeForms.NONE);
        }
        for (int what : new int[] {-1, 3, MOST, LEAST}) {
            Twins.refused("25: least(8, " + what + ")", maker, c -> c.least(8, what),
                    Check.ARGUMENT);
            Twins.refused("25: least(13, " + what + ")", maker, c -> c.least(13, what),
                    Check.ARGUMENT);
        }
    }

    private static void leastOfSeveral() {
        CubeForms x = Check.cube("sides 4;cell 1:1;cell 2:1;cell 3:1;");
        least(x, 1, 1, 1, 1);
        least(x, 2, 2, 1, 2);
        least(x, 3, 3, 1, 3);
        least(x, 4, -1, -1, -1);
        // Of one begin the end that comes first.
        Check.tell(x, "sides 2 2;cell 0 0:1;cell 0 1:1;cell 1 0:1;");
        least(x, 2, 2, 0, 1);
        Check.tell(x, "sides 2 2;cell 0 0:1;cell 1 0:1;cell 1 1:1;");
        least(x, 2, 2, 0, 2);
        Check.tell(x, "sides 2 2;cell 0 1:1;cell 1 0:1;cell 1 1:1;");
        least(x, 2, 2, 1, 3);
        least(x, 3, 4, 0, 3);
        // A box that begins later has fewer places.
        Check.tell(x, "sides 5;cell 0:1;cell 2:1;cell 3:1;cell 4:1;");
        least(x, 2, 2, 2, 3);
        least(x, 3, 3, 2, 4);
        least(x, 4, 5, 0, 4);
    }

    private static void leastThatIsBelow0() {
        CubeForms x = Check.cube("sides 3;cell 0:-3;cell 1:-1;cell 2:-2;");
        least(x, 0, -1, -1, -1);
        least(x, -1, 1, 1, 1);
        least(x, -2, 1, 1, 1);
        least(x, -3, 1, 0, 0);
        least(x, -6, 1, 0, 0);
    }

    private static void leastOfLongs() {
        CubeForms x = Check.cube("sides 3;");
        x.add(0, MOST);
        x.add(1, MOST);
        x.add(2, LEAST);
        least(x, Long.MIN_VALUE, 1, 0, 0);
        least(x, Long.MAX_VALUE, -1, -1, -1);
        least(x, MOST, 1, 0, 0);
        least(x, MOST + 1L, 2, 0, 1);
        least(x, 2L * MOST, 2, 0, 1);
        least(x, 2L * MOST + 1, -1, -1, -1);
        // What would be -1 in 32 bits is above all.
        least(x, (1L << 32) + LEAST + MOST, -1, -1, -1);
    }

    private static void printWrapsAround() {
        CubeForms x = Check.cube("sides 16;");
        long all = 0;
        for (int p = 0; p < 16; p++) {
            x.add(p, MOST - p);
        }
        for (int p = 0; p < 16; p++) {
            all = 31 * all + (MOST - p);
        }
        Check.due("26: wraps around", x.print(), all);
        CubeForms y = Check.cube("sides 2;cell 0:-1;cell 1:1;");
        Check.due("26: the first counts more", y.print(), -30);
        y.form(1);
        Check.due("26: of SUMS", y.print(), -31);
    }

    private static void statusFrom0To2() {
        CubeForms x = Check.cube("sides 16;");
        for (int i = 1; i <= 9; i++) {
            Check.thrownBy(() -> x.value(16));
            Check.due("27: status(0)", x.status(0), i);
            Check.due("27: status(1)", x.status(1), i - 1);
            Check.thrownBy(() -> x.told(10));
            Check.due("27: status(1)", x.status(1), i);
            Check.due("27: status(2)", x.status(2), i - 1);
            Check.thrownBy(() -> x.grow(0, 1));
            Check.due("27: status(2)", x.status(2), i);
        }
        for (int what : new int[] {-1, 3, 4, MOST, LEAST}) {
            Check.due("27: status(" + what + ")", x.status(what), CubeForms.NONE);
        }
        Check.due("27: that is no refusal", x.status(1), 9);
        x.text(0);
        x.undo();
        x.undo();
        Check.due("27: a fault and NONE are none", x.status(0) + x.status(1) + x.status(2), 27);
    }
}
