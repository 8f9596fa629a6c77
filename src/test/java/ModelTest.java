import java.nio.charset.StandardCharsets;
import java.util.Random;

/** Long runs of calls, good and bad, on the class and on the model; all answers are the same. */
public final class ModelTest {
    private static final String SIGNS = " 0123456789;:-[]acdegilmnsux\u00e9\t";
    private final Random random;
    private final CubeForms x = new CubeForms();
    private final Model m = new Model();
    private final String run;
    private final int mostPlaces;
    private int call = 0;

    private ModelTest(long seed, int mostPlaces) {
        this.random = new Random(seed);
        this.run = "seed " + seed + " call ";
        this.mostPlaces = mostPlaces;
    }

    public static void main(String[] args) {
        for (int seed = 1; seed <= 400; seed++) {
            new ModelTest(seed, 12).go(500);
        }
        for (int seed = 1001; seed <= 1060; seed++) {
            new ModelTest(seed, 60).go(200);
        }
        for (int seed = 2001; seed <= 2004; seed++) {
            new ModelTest(seed, 512).go(40);
        }
        Check.end("ModelTest");
    }

    private void go(int calls) {
        for (call = 0; call < calls; call++) {
            one();
        }
    }

    private void same(String what, Check.Call mine, Check.Call due) {
        long[] answers = new long[2];
        int want = Check.thrownBy(() -> answers[1] = due.ask());
        int got = Check.thrownBy(() -> answers[0] = mine.ask());
        Check.due(run + call + " " + what + " throws", got, want);
        if (got == Check.NOTHING && want == Check.NOTHING) {
            Check.due(run + call + " " + what, answers[0], answers[1]);
        }
    }

    private int pick(int n) {
        return random.nextInt(n);
    }

    /** Mostly a number from 0 to below n, now and then one that is none such. */
    private int near(int n) {
        switch (pick(14)) {
            case 0:
                return -1;
            case 1:
                return n;
            case 2:
                return random.nextInt();
            default:
                return pick(n);
        }
    }

    private int place() {
        return near(m.now.val.length);
    }

    private int side() {
        return near(m.now.len.length);
    }

    private int amount() {
        switch (pick(8)) {
            case 0:
                return random.nextInt();
            case 1:
                return Integer.MAX_VALUE;
            case 2:
                return Integer.MIN_VALUE;
            case 3:
                return 0;
            default:
                return pick(41) - 20;
        }
    }

    private void one() {
        switch (pick(34)) {
            case 0, 1 -> tellCube();
            case 2, 3 -> tellMix();
            case 4, 5, 6 -> {
                int form = near(5);
                same("form(" + form + ")", () -> x.form(form), () -> m.form(form));
            }
            case 7 -> {
                int n = near(17);
                same("edge(" + n + ")", () -> x.edge(n), () -> m.edge(n));
            }
            case 8, 9, 10, 11 -> {
                int p = place();
                int v = amount();
                same("add(" + p + ", " + v + ")", () -> x.add(p, v), () -> m.add(p, v));
            }
            case 12 -> {
                int s = side();
                int n = pick(3) == 0 ? near(17) : 1;
                if (m.now.val.length * 2 <= mostPlaces || s < 0 || s >= m.now.len.length) {
                    same("grow(" + s + ", " + n + ")", () -> x.grow(s, n), () -> m.grow(s, n));
                }
            }
            case 13 -> {
                int s = side();
                same("fold(" + s + ")", () -> x.fold(s), () -> m.fold(s));
            }
            case 14, 15 -> same("undo()", () -> x.undo(), () -> m.undo());
            default -> ask();
        }
        same("told(4)", () -> x.told(4), () -> m.told(4));
        same("told(7)", () -> x.told(7), () -> m.told(7));
        same("print()", () -> x.print(), () -> m.print());
    }

    private void ask() {
        int p = place();
        int q = place();
        int s = side();
        int form = near(5);
        switch (pick(17)) {
            case 0 -> askTold();
            case 1 -> {
                int what = near(3);
                same("side(" + s + ", " + what + ")", () -> x.side(s, what), () -> m.side(s, what));
            }
            case 2 -> same("value(" + p + ")", () -> x.value(p), () -> m.value(p));
            case 3 -> same("at(" + p + ", " + s + ")", () -> x.at(p, s), () -> m.at(p, s));
            case 4 -> {
                int k = near(m.now.sets().size() + 1);
                same("number(" + k + ")", () -> x.number(k), () -> m.number(k));
            }
            case 5, 6 -> same("sum(" + p + ", " + q + ")", () -> x.sum(p, q), () -> m.sum(p, q));
            case 7, 8 -> same("reads(" + p + ", " + q + ")", () -> x.reads(p, q),
                    () -> m.reads(p, q));
            case 9 -> same("writes(" + p + ")", () -> x.writes(p), () -> m.writes(p));
            case 10 -> {
                int c = near(s >= 0 && s < m.now.len.length ? m.now.len[s] : 16);
                same("slab(" + s + ", " + c + ")", () -> x.slab(s, c), () -> m.slab(s, c));
            }
            case 11 -> {
                int what = near(2);
                same("other(" + form + ", " + what + ")", () -> x.other(form, what),
                        () -> m.other(form, what));
            }
            case 12 -> askCost(form);
            case 13 -> same("window(" + p + ")", () -> x.window(p), () -> m.window(p));
            case 14, 15 -> askLeast();
            default -> {
                int what = near(3);
                same("status(" + what + ")", () -> x.status(what), () -> m.status(what));
            }
        }
    }

    private void askTold() {
        int what = near(10);
        same("told(" + what + ")", () -> x.told(what), () -> m.told(what));
        same("fault()", () -> x.fault(), () -> m.fault());
    }

    private void askCost(int form) {
        int edge = form == 2 || pick(6) == 0 ? near(17) : 0;
        same("cost(" + form + ", " + edge + ")", () -> x.cost(form, edge),
                () -> m.cost(form, edge));
        if (m.now.val.length <= 30 && pick(6) == 0) {
            int what = near(2);
            same("cheapest(" + what + ")", () -> x.cheapest(what), () -> m.cheapest(what));
        }
    }

    private void askLeast() {
        if (m.now.val.length > 64) {
            return;
        }
        long much = pick(4) == 0 ? random.nextLong() >> pick(40) : pick(60) - 20;
        int what = near(3);
        same("least(" + much + ", " + what + ")", () -> x.least(much, what),
                () -> m.least(much, what));
    }

    private void feed(String text) {
        byte[] bytes = text.getBytes(StandardCharsets.ISO_8859_1);
        for (int i = 0; i < bytes.length; i += 20) {
            int a = Check.four(bytes, i);
            int b = Check.four(bytes, i + 4);
            int c = Check.four(bytes, i + 8);
            int d = Check.four(bytes, i + 12);
            int e = Check.four(bytes, i + 16);
            same("feed of " + text, () -> x.feed(a, b, c, d, e), () -> m.feed(a, b, c, d, e));
        }
    }

    private int lengthToTake(String text) {
        return pick(12) == 0 ? near(m.tape.length + 1) : Math.min(text.length(), m.tape.length);
    }

    private void tellCube() {
        String text = spoiled(cubeText());
        feed(text);
        if (pick(20) == 0) {
            return;
        }
        int n = lengthToTake(text);
        same("text(" + n + ") of " + text, () -> x.text(n), () -> m.text(n));
        same("fault()", () -> x.fault(), () -> m.fault());
    }

    private void tellMix() {
        StringBuilder text = new StringBuilder();
        mixText(text, 0);
        String spoiled = spoiled(text.toString());
        feed(spoiled);
        int n = lengthToTake(spoiled);
        same("mix(" + n + ") of " + spoiled, () -> x.mix(n), () -> m.mix(n));
        same("fault()", () -> x.fault(), () -> m.fault());
    }

    private String spoiled(String text) {
        if (pick(3) != 0) {
            return text;
        }
        StringBuilder s = new StringBuilder(text);
        for (int i = pick(3); i >= 0; i--) {
            int at = pick(s.length() + 1);
            char sign = SIGNS.charAt(pick(SIGNS.length()));
            switch (pick(4)) {
                case 0 -> s.insert(at, sign);
                case 1 -> s.setLength(at);
                case 2 -> s.delete(at, Math.min(s.length(), at + 1));
                default -> {
                    if (at < s.length()) {
                        s.setCharAt(at, sign);
                    }
                }
            }
        }
        return s.toString();
    }

    private String gap() {
        return pick(5) == 0 ? "  ".substring(pick(2)) : "";
    }

    private String cubeText() {
        StringBuilder s = new StringBuilder(gap()).append("sides");
        int sides = 1 + pick(4);
        int[] lengths = new int[sides];
        int places = 1;
        for (int i = 0; i < sides; i++) {
            int room = Math.max(1, mostPlaces / places);
            lengths[i] = 1 + pick(Math.min(16, room));
            places *= lengths[i];
            s.append(' ').append(pick(9) == 0 ? "0" : "").append(lengths[i]);
        }
        if (pick(15) == 0) {
            s.append(' ').append(near(18));
        }
        s.append(gap()).append(';');
        for (int i = pick(9); i > 0; i--) {
            s.append(gap()).append("cell");
            for (int length : lengths) {
                s.append(' ').append(pick(40) == 0 ? pick(17) : pick(length));
            }
            s.append(gap()).append(':').append(pick(3) == 0 ? "-" : "").append(gap());
            s.append(pick(3) == 0 ? 1000000000 - pick(3) : pick(9)).append(gap()).append(';');
        }
        return s.append(gap()).toString();
    }

    private void mixText(StringBuilder s, int depth) {
        int places = m.now.val.length + (pick(4) == 0 ? 3 : 0);
        for (int i = pick(pick(12) == 0 ? 60 : 5); i > 0 && s.length() < 280; i--) {
            switch (pick(depth > 3 ? 2 : 4)) {
                case 0 -> s.append("add").append(gap()).append(pick(places));
                case 1 -> s.append("sum ").append(pick(places)).append(' ').append(pick(places));
                case 2 -> s.append("sum 0 ").append(pick(places));
                default -> {
                    s.append("again").append(pick(9) == 0 ? near(62) : pick(5)).append(gap());
                    s.append('[');
                    mixText(s, depth + 1);
                    s.append(gap()).append(']');
                }
            }
            s.append(gap()).append(';');
        }
    }
}
