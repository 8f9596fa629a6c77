import java.util.ArrayList;
import java.util.List;

/**
 * Every call that throws, in many states: which exception, which count of status() rises, and that
 * nothing else is changed; of several exceptions the one that is told first.
 */
public final class RefusalTest {
    private static final int MOST = Integer.MAX_VALUE;
    private static final int LEAST = Integer.MIN_VALUE;

    private final String state;
    private final Twins.Maker maker;
    private final CubeForms like;

    private RefusalTest(String state, Twins.Maker maker) {
        this.state = state + ": ";
        this.maker = maker;
        this.like = maker.make();
    }

    public static void main(String[] args) {
        for (RefusalTest test : states()) {
            test.places();
            test.sides();
            test.numbersThatAreNoneSuch();
            test.lengths();
            test.valuesThatDoNotFit();
            test.bothSidesOfEach();
        }
        ofSeveralTheFirst();
        Check.end("RefusalTest");
    }

    private static List<RefusalTest> states() {
        List<RefusalTest> all = new ArrayList<>();
        all.add(new RefusalTest("new", CubeForms::new));
        for (int form = 0; form < 5; form++) {
            int f = form;
            all.add(new RefusalTest("4 by 3 in form " + form, () -> rich("sides 4 3;", f)));
            all.add(new RefusalTest("2 by 2 by 2 by 2 in form " + form,
                    () -> rich("sides 2 2 2 2;", f)));
        }
        all.add(new RefusalTest("16", () -> rich("sides 16;", 2)));
        all.add(new RefusalTest("1 by 1", () -> rich("sides 1 1;", 4)));
        all.add(new RefusalTest("16 by 16 by 2", () -> rich("sides 16 16 2;", 1)));
        return all;
    }

    /** More than eight acts, a mix, a fault, a full tape, VALUES at both ends of 32 bits. */
    private static CubeForms rich(String sides, int form) {
        CubeForms x = Check.cube(sides);
        int last = x.told(1) - 1;
        for (int i = 0; i < 5; i++) {
            x.add(last / 2, i);
        }
        x.edge(2);
        x.form(form);
        x.add(last, MOST - x.value(last));
        x.add(last / 3, 0);
        x.add(0, LEAST + (x.value(0) > 0 ? 1 : 0));
        Check.tellMix(x, "add 0;sum 0 1;again 3[add 1;sum 1 1;];");
        Check.tell(x, "sides 2 ?");
        for (int i = 0; i < 20; i++) {
            Check.put(x, i == 0 ? "sides 5;cell 4:77;" : " ");
        }
        Check.thrownBy(() -> x.told(-1));
        return x;
    }

    private void refused(String what, Twins.Ask ask, int kind) {
        Twins.refused(state + what, maker, ask, kind);
    }

    private void places() {
        int places = like.told(1);
        for (int p : new int[] {-1, places, places + 1, 512, MOST, LEAST}) {
            refused("8: add(" + p + ", 0)", x -> x.add(p, 0), Check.NO_SUCH);
            refused("8: add(" + p + ", most)", x -> x.add(p, MOST), Check.NO_SUCH);
            refused("14: value(" + p + ")", x -> x.value(p), Check.NO_SUCH);
            refused("15: at(" + p + ", 0)", x -> x.at(p, 0), Check.NO_SUCH);
            refused("17: sum(" + p + ", 0)", x -> x.sum(p, 0), Check.NO_SUCH);
            refused("17: sum(0, " + p + ")", x -> x.sum(0, p), Check.NO_SUCH);
            refused("18: reads(" + p + ", 0)", x -> x.reads(p, 0), Check.NO_SUCH);
            refused("18: reads(0, " + p + ")", x -> x.reads(0, p), Check.NO_SUCH);
            refused("19: writes(" + p + ")", x -> x.writes(p), Check.NO_SUCH);
            refused("24: window(" + p + ")", x -> x.window(p), Check.NO_SUCH);
        }
        int kept = like.told(4);
        for (int k : new int[] {-1, kept, kept + 1, MOST, LEAST}) {
            refused("16: number(" + k + ")", x -> x.number(k), Check.NO_SUCH);
        }
        if (places > 1) {
            refused("17: no box", x -> x.sum(places - 1, 0), Check.ARGUMENT);
            refused("18: no box", x -> x.reads(places - 1, 0), Check.ARGUMENT);
        }
    }

    private void sides() {
        int sides = like.told(0);
        for (int s : new int[] {-1, sides, sides + 1, 4, MOST, LEAST}) {
            refused("9: grow(" + s + ", 1)", x -> x.grow(s, 1), Check.NO_SUCH);
            refused("9: grow(" + s + ", 0)", x -> x.grow(s, 0), Check.NO_SUCH);
            refused("9: grow(" + s + ", 16)", x -> x.grow(s, 16), Check.NO_SUCH);
            refused("10: fold(" + s + ")", x -> x.fold(s), Check.NO_SUCH);
            refused("13: side(" + s + ", 0)", x -> x.side(s, 0), Check.NO_SUCH);
            refused("13: side(" + s + ", 3)", x -> x.side(s, 3), Check.NO_SUCH);
            refused("15: at(0, " + s + ")", x -> x.at(0, s), Check.NO_SUCH);
            refused("20: slab(" + s + ", 0)", x -> x.slab(s, 0), Check.NO_SUCH);
        }
        for (int side = 0; side < sides; side++) {
            int s = side;
            int length = like.side(s, 0);
            for (int at : new int[] {-1, length, 16, MOST, LEAST}) {
                refused("20: slab(" + s + ", " + at + ")", x -> x.slab(s, at), Check.NO_SUCH);
            }
            for (int n : new int[] {0, -1, 16, MOST, LEAST}) {
                refused("9: grow(" + s + ", " + n + ")", x -> x.grow(s, n), Check.ARGUMENT);
            }
            for (int what : new int[] {-1, 3, MOST, LEAST}) {
                refused("13: side(" + s + ", " + what + ")", x -> x.side(s, what), Check.ARGUMENT);
            }
        }
    }

    private void numbersThatAreNoneSuch() {
        for (int n : new int[] {-1, 5, MOST, LEAST}) {
            refused("6: form(" + n + ")", x -> x.form(n), Check.ARGUMENT);
            refused("21: other(" + n + ", 0)", x -> x.other(n, 0), Check.ARGUMENT);
            refused("22: cost(" + n + ", 0)", x -> x.cost(n, 0), Check.ARGUMENT);
            refused("22: cost(" + n + ", 1)", x -> x.cost(n, 1), Check.ARGUMENT);
        }
        for (int n : new int[] {-1, 0, 17, MOST, LEAST}) {
            refused("7: edge(" + n + ")", x -> x.edge(n), Check.ARGUMENT);
            refused("22: cost(2, " + n + ")", x -> x.cost(2, n), Check.ARGUMENT);
        }
        for (int n : new int[] {-1, 1, 16, MOST, LEAST}) {
            refused("22: cost(0, " + n + ")", x -> x.cost(0, n), Check.ARGUMENT);
            refused("22: cost(1, " + n + ")", x -> x.cost(1, n), Check.ARGUMENT);
            refused("22: cost(3, " + n + ")", x -> x.cost(3, n), Check.ARGUMENT);
            refused("22: cost(4, " + n + ")", x -> x.cost(4, n), Check.ARGUMENT);
        }
        for (int n : new int[] {-1, 10, MOST, LEAST}) {
            refused("12: told(" + n + ")", x -> x.told(n), Check.ARGUMENT);
        }
        for (int n : new int[] {-1, 2, MOST, LEAST}) {
            refused("21: other(2, " + n + ")", x -> x.other(2, n), Check.ARGUMENT);
            refused("23: cheapest(" + n + ")", x -> x.cheapest(n), Check.ARGUMENT);
        }
        for (int n : new int[] {-1, 3, MOST, LEAST}) {
            refused("25: least(0, " + n + ")", x -> x.least(0, n), Check.ARGUMENT);
            refused("25: least(most, " + n + ")", x -> x.least(Long.MAX_VALUE, n), Check.ARGUMENT);
        }
    }

    private void lengths() {
        int bytes = like.told(8);
        for (int n : new int[] {-1, bytes + 1, 401, MOST, LEAST}) {
            refused("3: text(" + n + ")", x -> x.text(n), Check.ARGUMENT);
            refused("4: mix(" + n + ")", x -> x.mix(n), Check.ARGUMENT);
        }
        refused("4: mix(301)", x -> x.mix(301), Check.ARGUMENT);
        for (int side = 0; side < like.told(0); side++) {
            int s = side;
            int length = like.side(s, 0);
            for (int n = 1; n <= 15; n++) {
                int more = n;
                if (length + n > 16 || like.told(1) / length * (length + n) > 512) {
                    refused("9: grow(" + s + ", " + n + ")", x -> x.grow(s, more), Check.STATE);
                }
            }
        }
        if (like.told(0) == 1) {
            refused("10: fold(0)", x -> x.fold(0), Check.STATE);
        }
    }

    private void valuesThatDoNotFit() {
        for (int p = 0; p < like.told(1); p++) {
            int place = p;
            int value = like.value(p);
            if (value > 0) {
                refused("8: one more than fits", x -> x.add(place, MOST - value + 1), Check.STATE);
                refused("8: the most", x -> x.add(place, MOST), Check.STATE);
            }
            if (value < 0) {
                refused("8: one less than fits", x -> x.add(place, LEAST - value - 1),
                        Check.STATE);
                refused("8: the least", x -> x.add(place, LEAST), Check.STATE);
            }
        }
    }

    /** The nearest arguments that are not refused. */
    private void bothSidesOfEach() {
        int last = like.told(1) - 1;
        int lastSide = like.told(0) - 1;
        int lastX = like.side(lastSide, 0) - 1;
        int kept = like.told(4);
        Twins.Ask[] good = {x -> x.value(0), x -> x.value(last), x -> x.writes(0),
            x -> x.writes(last), x -> x.at(0, 0), x -> x.at(last, lastSide), x -> x.window(0),
            x -> x.window(last), x -> x.sum(0, last), x -> x.sum(0, 0), x -> x.sum(last, last),
            x -> x.reads(0, last), x -> x.reads(0, 0), x -> x.reads(last, last),
            x -> x.side(0, 0), x -> x.side(lastSide, 2), x -> x.slab(0, 0),
            x -> x.slab(lastSide, lastX), x -> x.number(0), x -> x.number(kept - 1),
            x -> x.told(0), x -> x.told(9), x -> x.other(0, 0), x -> x.other(4, 1),
            x -> x.cost(0, 0), x -> x.cost(4, 0), x -> x.cost(2, 1), x -> x.cost(2, 16),
            x -> x.cheapest(0), x -> x.cheapest(1), x -> x.least(0, 0), x -> x.least(0, 2)};
        for (int i = 0; i < good.length; i++) {
            CubeForms once = maker.make();
            Twins.asked(state + "call " + i + " is not refused", maker, good[i], good[i].of(once));
        }
        Twins.Ask[] acts = {x -> x.add(0, MOST), x -> x.add(last, last == 0 ? 0 : LEAST),
            x -> x.form(0), x -> x.form(4), x -> x.edge(1), x -> x.edge(16), x -> x.text(0),
            x -> x.mix(0), x -> x.text(like.told(8)), x -> x.mix(Math.min(300, like.told(8)))};
        for (int i = 0; i < acts.length; i++) {
            CubeForms once = maker.make();
            Twins.answered(state + "act " + i + " is not refused", maker.make(), acts[i],
                    acts[i].of(once));
        }
    }

    private static void ofSeveralTheFirst() {
        Twins.Maker sixteen = () -> Check.cube("sides 16;");
        Twins.refused("9: no SIDE, no n", sixteen, x -> x.grow(1, 0), Check.NO_SUCH);
        Twins.refused("9: no SIDE, too long", sixteen, x -> x.grow(1, 1), Check.NO_SUCH);
        Twins.refused("9: no n, too long", sixteen, x -> x.grow(0, 16), Check.ARGUMENT);
        Twins.refused("9: too long alone", sixteen, x -> x.grow(0, 15), Check.STATE);
        Twins.refused("10: no SIDE, the only one", sixteen, x -> x.fold(1), Check.NO_SUCH);
        Twins.refused("10: the only one alone", sixteen, x -> x.fold(0), Check.STATE);
        Twins.refused("13: no SIDE, no what", sixteen, x -> x.side(1, 3), Check.NO_SUCH);
        Twins.refused("13: no what alone", sixteen, x -> x.side(0, 3), Check.ARGUMENT);
        Twins.refused("15: no PLACE, no SIDE", sixteen, x -> x.at(16, 1), Check.NO_SUCH);
        Twins.refused("17: no PLACE, no BOX", sixteen, x -> x.sum(16, 15), Check.NO_SUCH);
        Twins.refused("17: no PLACE, no BOX", sixteen, x -> x.sum(1, -1), Check.NO_SUCH);
        Twins.refused("17: no BOX alone", sixteen, x -> x.sum(1, 0), Check.ARGUMENT);
        Twins.refused("18: no PLACE, no BOX", sixteen, x -> x.reads(16, 15), Check.NO_SUCH);
        Twins.refused("18: no PLACE, no BOX", sixteen, x -> x.reads(1, -1), Check.NO_SUCH);
        Twins.refused("18: no BOX alone", sixteen, x -> x.reads(1, 0), Check.ARGUMENT);
        Twins.refused("20: no SIDE, no x", sixteen, x -> x.slab(1, 16), Check.NO_SUCH);
    }
}
