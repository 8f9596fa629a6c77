/** The boundaries of the ACTS and of undo() (promises 8 to 11, and the end of '==== 3.'). */
public final class ActBoundaryTest {
    private static final int MOST = Integer.MAX_VALUE;
    private static final int LEAST = Integer.MIN_VALUE;

    private ActBoundaryTest() {
    }

    public static void main(String[] args) {
        addAtTheEndsOf32Bits();
        addAtTheFirstAndLastPlace();
        addOfNothing();
        growBy1To15();
        growToSixteen();
        growTo512Places();
        growKeepsWhatWas();
        growInEachForm();
        foldOfTheOnlySide();
        foldAtTheEndsOf32Bits();
        foldOfTheFirstAndLastLine();
        foldOfEachSide();
        foldOf512Places();
        foldOfASideOfOne();
        foldTakesTheFormOnAnew();
        eightActs();
        eachActIsTakenBack();
        whatIsNoAct();
        actsBehindUndo();
        undoOfNothing();
        undoRunsRound();
        undoAndTheMix();
        undoLeavesTheRest();
        Check.end("ActBoundaryTest");
    }

    /** Values at the ends of 32 bits, a mix, acts, USED x and bytes on the tape. */
    private static CubeForms full() {
        CubeForms x = Check.cube("sides 2 3;cell 1 2:9;");
        x.edge(2);
        x.form(4);
        x.add(0, MOST);
        x.add(1, LEAST);
        Check.tellMix(x, "add 1;again 2[sum 0 5;];");
        Check.put(x, "sides 3;cell 1:1;");
        return x;
    }

    private static void added(int first, int more) {
        CubeForms x = new CubeForms();
        x.add(0, first);
        Twins.answered("8: add(" + more + ") to " + first, x, c -> c.add(0, more), 1);
        Check.due("8: the VALUE", x.value(0), first + (long) more);
        Check.due("8: an act", x.told(9), 2);
    }

    private static void notAdded(int first, int more) {
        for (int form = 0; form < 5; form++) {
            int f = form;
            Twins.Maker maker = () -> {
                CubeForms x = full();
                x.form(f);
                x.add(2, first);
                return x;
            };
            Twins.refused("8: add(" + more + ") to " + first + " in form " + form, maker,
                    x -> x.add(2, more), Check.STATE);
        }
    }

    private static void addAtTheEndsOf32Bits() {
        added(0, MOST);
        added(0, LEAST);
        added(MOST, 0);
        added(LEAST, 0);
        added(MOST - 1, 1);
        added(1, MOST - 1);
        added(LEAST + 1, -1);
        added(-1, LEAST + 1);
        added(MOST, -1);
        added(MOST, LEAST);
        added(LEAST, MOST);
        added(LEAST, 1);
        notAdded(MOST, 1);
        notAdded(1, MOST);
        notAdded(MOST, MOST);
        notAdded(LEAST, -1);
        notAdded(-1, LEAST);
        notAdded(LEAST, LEAST);
    }

    private static void addAtTheFirstAndLastPlace() {
        for (String sides : new String[] {"1", "16", "2 3", "2 2 2 2", "16 16 2"}) {
            CubeForms x = Check.cube("sides " + sides + ";");
            int last = x.told(1) - 1;
            x.add(last, 5);
            x.add(0, 7);
            Check.due("8: the last place", x.value(last), last == 0 ? 12 : 5);
            Check.due("8: the first place", x.value(0), last == 0 ? 12 : 7);
            Check.due("8: two acts", x.told(9), 3);
            Twins.Maker maker = () -> Check.cube("sides " + sides + ";");
            for (int place : new int[] {-1, last + 1, last + 2, 512, MOST, LEAST}) {
                Twins.refused("8: add at " + place, maker, c -> c.add(place, 1), Check.NO_SUCH);
            }
        }
    }

    private static void addOfNothing() {
        int[] writes = {1, 6, 6, 4, 3};
        for (int form = 0; form < 5; form++) {
            CubeForms x = Check.cube("sides 2 3;cell 1 2:9;");
            x.form(form);
            Check.due("8: add(0, 0) in form " + form, x.add(0, 0), writes[form]);
            Check.due("8: an act, too", x.told(9), 3);
            Check.due("8: the VALUE", x.value(0), 0);
        }
    }

    private static void growBy1To15() {
        for (int n = 1; n <= 15; n++) {
            int more = n;
            CubeForms x = new CubeForms();
            x.add(0, 3);
            Twins.answered("9: grow by " + n, x, c -> c.grow(0, more), 1 + n);
            Check.due("9: LENGTH", x.side(0, 0), 1 + n);
            Check.due("9: PLACES", x.told(1), 1 + n);
            Check.due("9: the old VALUE", x.value(0), 3);
            Check.due("9: the last VALUE", x.value(n), 0);
            Check.due("9: an act", x.told(9), 2);
        }
        for (int n : new int[] {0, -1, 16, 17, MOST, LEAST}) {
            Twins.refused("9: grow by " + n, ActBoundaryTest::full, x -> x.grow(1, n),
                    Check.ARGUMENT);
        }
    }

    private static void growToSixteen() {
        for (int n = 1; n <= 15; n++) {
            String sides = "sides 2 " + n + ";";
            int most = 16 - n;
            CubeForms x = Check.cube(sides);
            Twins.answered("9: from " + n + " to 16", x, c -> c.grow(1, most), 32);
            Twins.Maker maker = () -> Check.cube(sides);
            if (n > 1) {
                Twins.refused("9: from " + n + " to 17", maker, c -> c.grow(1, most + 1),
                        Check.STATE);
            }
        }
        Twins.refused("9: from 16 to 17", () -> Check.cube("sides 16;"), x -> x.grow(0, 1),
                Check.STATE);
        Twins.refused("9: from 16 to 31", () -> Check.cube("sides 16;"), x -> x.grow(0, 15),
                Check.STATE);
    }

    private static void growTo512Places() {
        CubeForms x = Check.cube("sides 16 16 1;cell 15 15 0:4;");
        Twins.answered("9: to 512", x, c -> c.grow(2, 1), 512);
        Check.due("9: the old VALUE", x.value(510), 4);
        Check.due("9: behind it", x.value(511), 0);
        Twins.answered("9: to 512", Check.cube("sides 4 4 4 1;"), c -> c.grow(3, 7), 512);
        Twins.answered("9: to 507", Check.cube("sides 13 13 1;"), c -> c.grow(2, 2), 507);
        String[] most = {"sides 13 8 4;", "sides 16 16 2;", "sides 13 5 1 7;", "sides 1 16 16 2;"};
        int[] side = {2, 2, 3, 0};
        for (int i = 0; i < most.length; i++) {
            String sides = most[i];
            int s = side[i];
            // To 520 or more.
            Twins.refused("9: " + sides + " and one more", () -> Check.cube(sides),
                    c -> c.grow(s, 1), Check.STATE);
        }
        Twins.answered("9: to 455 and no more", Check.cube("sides 13 5 1 6;"), c -> c.grow(3, 1),
                455);
    }

    private static void growKeepsWhatWas() {
        for (int side = 0; side < 3; side++) {
            CubeForms x = Check.cube("sides 2 3 2;");
            for (int p = 0; p < 12; p++) {
                x.add(p, p + 1);
            }
            x.grow(side, 2);
            for (int p = 0; p < x.told(1); p++) {
                int a = x.at(p, 0);
                int b = x.at(p, 1);
                int c = x.at(p, 2);
                boolean old = a < 2 && b < 3 && c < 2;
                Check.due("9: side " + side, x.value(p), old ? a * 6 + b * 2 + c + 1 : 0);
            }
        }
    }

    private static void growInEachForm() {
        int[] want = {10, 10, 2 * 5 + 2 * 1, 10, 4};
        for (int form = 0; form < 5; form++) {
            CubeForms x = Check.cube("sides 2 3;cell 1 2:9;");
            x.edge(3);
            x.form(form);
            x.add(0, 0);
            // By edge 3 five x have two PIECES: 2 by 5, and 2 by 1 ahead of the second one.
            Check.due("9: NUMBERS in form " + form, x.grow(1, 2), want[form]);
            Check.due("9: the form stays", x.told(2), form);
            Check.due("9: USED is what was", x.side(1, 2), form == 4 ? 2 : 5);
            Check.due("9: the sum of all", x.sum(0, 9), 9);
        }
    }

    private static void foldOfTheOnlySide() {
        for (String sides : new String[] {"sides 1;", "sides 16;"}) {
            for (int form = 0; form < 5; form++) {
                int f = form;
                Twins.Maker maker = () -> {
                    CubeForms x = Check.cube(sides);
                    x.form(f);
                    return x;
                };
                Twins.refused("10: the only one", maker, x -> x.fold(0), Check.STATE);
                Twins.refused("10: none such", maker, x -> x.fold(1), Check.NO_SUCH);
                Twins.refused("10: none such", maker, x -> x.fold(-1), Check.NO_SUCH);
            }
        }
        CubeForms x = Check.cube("sides 2 2 2 2;");
        for (int places = 8; places > 1; places /= 2) {
            Check.due("10: fold", x.fold(0), places);
        }
        Check.refused("10: one is left", () -> x.fold(0), Check.STATE);
    }

    private static CubeForms line(int one, int two, int three) {
        CubeForms x = Check.cube("sides 2 3;cell 0 1:4;");
        x.add(3, one);
        x.add(4, two);
        x.add(5, three);
        return x;
    }

    private static void foldAtTheEndsOf32Bits() {
        int[][] good = {{MOST, 0, 0}, {MOST - 1, 1, 0}, {LEAST, 0, 0}, {LEAST + 1, 0, -1},
            {MOST, 1, -1}, {1, MOST, -1}, {MOST, MOST, LEAST}, {LEAST, -1, 1}};
        int[] sums = {MOST, MOST, LEAST, LEAST, MOST, MOST, MOST - 1, LEAST};
        for (int i = 0; i < good.length; i++) {
            int[] v = good[i];
            CubeForms x = line(v[0], v[1], v[2]);
            Twins.answered("10: fold that fits", x, c -> c.fold(1), 2);
            Check.due("10: added up", x.value(1), sums[i]);
            Check.due("10: the other line", x.value(0), 4);
        }
        int[][] bad = {{MOST, 1, 0}, {MOST, 0, 1}, {1, 0, MOST}, {LEAST, -1, 0}, {-1, 0, LEAST},
            {LEAST, LEAST, MOST}, {MOST, MOST, MOST}, {MOST, MOST, 2}, {LEAST, LEAST, LEAST}};
        for (int[] v : bad) {
            Twins.refused("10: fold that does not fit", () -> line(v[0], v[1], v[2]),
                    x -> x.fold(1), Check.STATE);
            CubeForms x = line(v[0], v[1], v[2]);
            Check.refused("10: along the other side", () -> x.fold(0),
                    v[1] > MOST - 4 ? Check.STATE : Check.NOTHING);
        }
    }

    private static void foldOfTheFirstAndLastLine() {
        int[] step = {12, 4, 1};
        for (int side = 0; side < 3; side++) {
            int s = side;
            for (int place = 0; place < 24; place++) {
                int first = place;
                int next = place + step[side];
                if (next >= 24 || Check.cube("sides 2 3 4;").at(place, side) > 0) {
                    continue;
                }
                for (int value : new int[] {MOST, LEAST}) {
                    Twins.Maker maker = () -> {
                        CubeForms x = Check.cube("sides 2 3 4;");
                        x.add(first, value);
                        x.add(next, value > 0 ? 1 : -1);
                        return x;
                    };
                    Twins.refused("10: the line at " + place + " along " + side, maker,
                            x -> x.fold(s), Check.STATE);
                }
            }
        }
    }

    private static void foldOf512Places() {
        int[] places = {32, 32, 256};
        for (int side = 0; side < 3; side++) {
            int s = side;
            CubeForms x = Check.cube("sides 16 16 2;");
            for (int p = 0; p < 512; p++) {
                x.add(p, p % 7);
            }
            long sum = x.sum(0, 511);
            Twins.answered("10: of 512", x, c -> c.fold(s), places[side]);
            Check.due("10: the sum of all stays", x.sum(0, places[side] - 1), sum);
            Check.refused("10: one behind the last", () -> x.value(places[s]), Check.NO_SUCH);
            x.fold(0);
            Check.due("10: and once more", x.sum(0, x.told(1) - 1), sum);
        }
    }

    private static void foldOfEachSide() {
        int[] places = {12, 8, 6};
        for (int side = 0; side < 3; side++) {
            CubeForms x = Check.cube("sides 2 3 4;");
            for (int p = 0; p < 24; p++) {
                x.add(p, 1 << p);
            }
            Check.due("10: PLACES", x.fold(side), places[side]);
            int[] step = {12, 4, 1};
            int[] length = {2, 3, 4};
            int next = 0;
            for (int p = 0; p < 24; p++) {
                if (p / step[side] % length[side] == 0) {
                    int sum = 0;
                    for (int i = 0; i < length[side]; i++) {
                        sum += 1 << p + i * step[side];
                    }
                    Check.due("10: side " + side + " folded", x.value(next), sum);
                    next++;
                }
            }
            Check.due("10: LENGTH of SIDE 0", x.side(0, 0), side == 0 ? 3 : 2);
            Check.due("10: LENGTH of SIDE 1", x.side(1, 0), side == 2 ? 3 : 4);
        }
    }

    private static void foldOfASideOfOne() {
        CubeForms x = Check.cube("sides 3 1;cell 0 0:1;cell 1 0:2;cell 2 0:3;");
        Check.due("10: nothing to add", x.fold(1), 3);
        Check.due("10: one side less", x.told(0), 1);
        for (int p = 0; p < 3; p++) {
            Check.due("10: the VALUES", x.value(p), p + 1);
        }
        CubeForms y = Check.cube("sides 1 1;cell 0 0:5;");
        Check.due("10: to one place", y.fold(0), 1);
        Check.due("10: its VALUE", y.value(0), 5);
    }

    private static void foldTakesTheFormOnAnew() {
        CubeForms x = Check.cube("sides 2 3;cell 0 1:2;cell 1 1:-2;cell 1 2:1;");
        x.form(4);
        x.add(3, 0);
        Check.due("10: LISTS ahead", x.told(4), 6);
        x.fold(0);
        Check.due("10: LISTS anew", x.told(4), 1);
        Check.due("10: USED", x.side(0, 2), 1);
        int[] want = {3, 3, 3 + 1, 3, 1};
        for (int form = 0; form < 5; form++) {
            CubeForms y = Check.cube("sides 2 3;cell 0 1:2;cell 1 1:-2;cell 1 2:1;");
            y.edge(2);
            y.form(form);
            y.fold(0);
            Check.due("10: the form stays", y.told(2), form);
            Check.due("10: its NUMBERS", y.told(4), want[form]);
            Check.due("10: the last NUMBER", y.number(want[form] - 1), form == 2 ? 0 : 1);
        }
    }

    private static void eightActs() {
        for (int acts = 0; acts <= 12; acts++) {
            CubeForms x = new CubeForms();
            for (int i = 0; i < acts; i++) {
                x.add(0, 1 << i);
            }
            int kept = Math.min(8, acts);
            Check.due("12: ACTS", x.told(9), kept);
            for (int i = 1; i <= kept; i++) {
                Check.due("11: undo()", x.undo(), kept - i);
                Check.due("11: told(9)", x.told(9), kept - i);
                Check.due("11: the VALUE", x.value(0), (1 << acts - i) - 1);
            }
            Check.due("11: none could", x.undo(), CubeForms.NONE);
            Check.due("11: the VALUE stays", x.value(0), (1 << acts - kept) - 1);
            Check.due("11: told(9)", x.told(9), 0);
        }
    }

    /** One act alone behind a cube with a mix, in each form. */
    private static void eachActIsTakenBack() {
        Twins.Ask[] acts = {x -> Check.tell(x, "sides 2 2;cell 1 1:7;"),
            x -> Check.tell(x, "sides 2 3;"), x -> x.form(0), x -> x.form(1), x -> x.form(2),
            x -> x.form(3), x -> x.form(4), x -> x.edge(1), x -> x.edge(16), x -> x.add(0, 5),
            x -> x.add(3, 0), x -> x.add(5, -9), x -> x.grow(0, 1), x -> x.grow(1, 13),
            x -> x.fold(0), x -> x.fold(1)};
        for (int form = 0; form < 5; form++) {
            int f = form;
            Twins.Maker maker = () -> {
                CubeForms x = Check.cube("sides 2 3;cell 1 2:9;cell 0 1:-4;");
                x.edge(2);
                x.form(f);
                x.add(3, 0);
                return x;
            };
            for (int i = 0; i < acts.length; i++) {
                Twins.Ask act = acts[i];
                Twins.Ask actAndUndo = x -> {
                    act.of(x);
                    Check.due("11: an act", x.told(9), 5);
                    return x.undo();
                };
                Twins.asked("11: act " + i + " taken back in form " + form, maker, actAndUndo, 4);
            }
        }
    }

    private static void whatIsNoAct() {
        Twins.Ask[] none = {x -> x.feed(0, 0, 0, 0, 0), x -> Check.tell(x, "sides 2 2"),
            x -> x.text(0), x -> Check.tellMix(x, "add 1;"), x -> Check.tellMix(x, "add"),
            CubeForms::fault, x -> x.told(4), x -> x.side(0, 0), x -> x.value(0), x -> x.at(0, 0),
            x -> x.sum(0, 5), x -> x.reads(0, 5), x -> x.writes(0), x -> x.slab(0, 0),
            x -> x.other(2, 0), x -> x.cost(2, 1), x -> x.cheapest(0), x -> x.cheapest(1),
            x -> x.window(0), x -> x.least(1, 0), CubeForms::print, x -> x.status(0)};
        for (int i = 0; i < none.length; i++) {
            CubeForms x = full();
            none[i].of(x);
            Check.due("11: call " + i + " is no act", x.told(9), 5);
            Check.due("11: the latest act is the add", x.undo(), 4);
            Check.due("11: it is taken back", x.value(1), 0);
        }
        Twins.Ask[] refused = {x -> x.text(99), x -> x.mix(99), x -> x.form(5), x -> x.edge(0),
            x -> x.add(0, 1), x -> x.add(6, 1), x -> x.grow(2, 1), x -> x.grow(0, 0),
            x -> x.grow(1, 14), x -> x.fold(2)};
        for (int i = 0; i < refused.length; i++) {
            CubeForms x = full();
            Twins.Ask call = refused[i];
            Check.due("11: refused", Check.thrownBy(() -> call.of(x)) == Check.NOTHING ? 1 : 0, 0);
            Check.due("11: refused call " + i + " is no act", x.told(9), 5);
            Check.due("11: the latest act is the add", x.undo(), 4);
            Check.due("11: it is taken back", x.value(1), 0);
        }
    }

    private static void actsBehindUndo() {
        CubeForms x = new CubeForms();
        for (int i = 0; i < 8; i++) {
            x.add(0, 1 << i);
        }
        x.undo();
        x.add(0, 1 << 20);
        Check.due("11: eight again", x.told(9), 8);
        x.add(0, 1 << 21);
        Check.due("11: no more than eight", x.told(9), 8);
        for (int left = 7; left >= 0; left--) {
            Check.due("11: left", x.undo(), left);
        }
        // The first add can't be taken back any more.
        Check.due("11: the VALUE", x.value(0), 1);
        Check.due("11: none", x.undo(), CubeForms.NONE);
    }

    private static void undoOfNothing() {
        Twins.asked("11: undo() of a new object", CubeForms::new, CubeForms::undo, CubeForms.NONE);
        Twins.Maker allBack = () -> {
            CubeForms x = full();
            for (int i = 0; i < 5; i++) {
                x.undo();
            }
            Check.tellMix(x, "add 0;");
            return x;
        };
        Twins.asked("11: undo() behind all", allBack, CubeForms::undo, CubeForms.NONE);
        Check.due("11: nothing is refused", allBack.make().status(2), 0);
    }

    /** Acts and undo() in turn, so often that what keeps eight of them runs round. */
    private static void undoRunsRound() {
        CubeForms x = new CubeForms();
        int value = 0;
        for (int i = 0; i < 40; i++) {
            x.add(0, 3);
            x.add(0, 5);
            x.undo();
            value += 3;
            Check.due("11: the VALUE", x.value(0), value);
            Check.due("11: ACTS", x.told(9), Math.min(7, i + 1));
        }
    }

    private static void mixBack(String what, Twins.Ask act, int steps) {
        CubeForms x = Check.cube("sides 4 3;");
        act.of(x);
        Check.tellMix(x, "add 0;add 1;");
        x.undo();
        Check.due("11: the mix behind undo of " + what, x.told(7), steps);
        Check.due("11: its cost", x.cost(0, 0), steps);
    }

    private static void undoAndTheMix() {
        mixBack("form", x -> x.form(4), 2);
        mixBack("edge", x -> x.edge(9), 2);
        mixBack("add", x -> x.add(1, 1), 2);
        mixBack("a text of the same sides", x -> Check.tell(x, "sides 4 3;cell 0 0:1;"), 2);
        mixBack("a text of as many places", x -> Check.tell(x, "sides 3 4;"), 0);
        mixBack("a text of a side more", x -> Check.tell(x, "sides 4 3 1;"), 0);
        mixBack("a text of a side less", x -> Check.tell(x, "sides 4;"), 0);
        mixBack("grow of the first side", x -> x.grow(0, 1), 0);
        mixBack("grow of the last side", x -> x.grow(1, 1), 0);
        mixBack("fold", x -> x.fold(0), 0);
        CubeForms y = Check.cube("sides 4 3;");
        Check.tellMix(y, "add 0;add 1;");
        Check.tell(y, "sides 4 3;");
        y.undo();
        Check.due("11: what is gone does not come back", y.told(7), 0);
        Check.tellMix(y, "add 0;add 1;");
        y.grow(0, 1);
        y.undo();
        Check.due("11: what is gone does not come back", y.told(7), 0);
    }

    private static void undoLeavesTheRest() {
        CubeForms x = full();
        Check.thrownBy(() -> x.value(6));
        Check.thrownBy(() -> x.told(10));
        Check.thrownBy(() -> x.add(0, 1));
        x.undo();
        Check.due("11: the tape stays", x.told(8), 20);
        Check.due("11: status stays", x.status(0), 1);
        Check.due("11: status stays", x.status(1), 1);
        Check.due("11: status stays", x.status(2), 1);
        Check.due("11: the bytes stay", x.text(17), 3);
        Check.due("11: the bytes stay", x.value(1), 1);
    }
}
