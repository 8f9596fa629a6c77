import java.util.ArrayDeque;
import java.util.ArrayList;
import java.util.Arrays;
import java.util.Deque;
import java.util.List;
import java.util.NoSuchElementException;
import java.util.TreeSet;

/**
 * The document told a second time, as plainly and slowly as it can be: each NUMBER is a set of
 * PLACES, written down place by place, and what is READ and WRITTEN is counted from such sets.
 */
final class Model {
    static final class State {
        int[] len = {1};
        int[] val = {0};
        int form = 0;
        int edge = 4;
        List<TreeSet<Integer>> used = new ArrayList<>();

        State copy() {
            State s = new State();
            s.len = len.clone();
            s.val = val.clone();
            s.form = form;
            s.edge = edge;
            for (TreeSet<Integer> one : used) {
                s.used.add(new TreeSet<>(one));
            }
            return s;
        }

        int[] coords(int place) {
            int[] x = new int[len.length];
            int left = place;
            for (int s = len.length - 1; s >= 0; s--) {
                x[s] = left % len[s];
                left /= len[s];
            }
            return x;
        }

        int placeOf(int[] x) {
            int place = 0;
            for (int s = 0; s < len.length; s++) {
                place = place * len[s] + x[s];
            }
            return place;
        }

        int pieces(int s) {
            int count = 0;
            for (int begin = 0; begin < len[s]; begin += edge) {
                count++;
            }
            return count;
        }

        void takeOn(int next) {
            form = next;
            used = new ArrayList<>();
            for (int s = 0; s < len.length; s++) {
                used.add(new TreeSet<>());
            }
            for (int p = 0; p < val.length; p++) {
                if (val[p] != 0) {
                    use(p);
                }
            }
        }

        void use(int place) {
            for (int s = 0; s < len.length && !used.isEmpty(); s++) {
                used.get(s).add(coords(place)[s]);
            }
        }

        boolean inBox(int place, int[] from, int[] to) {
            int[] x = coords(place);
            for (int s = 0; s < len.length; s++) {
                if (x[s] < from[s] || x[s] > to[s]) {
                    return false;
                }
            }
            return true;
        }

        long boxSum(int[] from, int[] to) {
            long sum = 0;
            for (int p = 0; p < val.length; p++) {
                if (inBox(p, from, to)) {
                    sum += val[p];
                }
            }
            return sum;
        }

        boolean isUsed(int place) {
            int[] x = coords(place);
            for (int s = 0; s < len.length; s++) {
                if (!used.get(s).contains(x[s])) {
                    return false;
                }
            }
            return true;
        }

        /** The NUMBERS in order, each as the set of its PLACES. */
        List<boolean[]> sets() {
            List<boolean[]> all = new ArrayList<>();
            if (form == 2) {
                for (int choice = 0; choice < 1 << len.length; choice++) {
                    boxSets(all, choice, new int[len.length], 0);
                }
                return all;
            }
            for (int p = 0; p < val.length; p++) {
                if (form == 4 && !isUsed(p)) {
                    continue;
                }
                boolean[] set = new boolean[val.length];
                for (int q = 0; q < val.length; q++) {
                    set[q] = placeHas(p, q);
                }
                all.add(set);
            }
            return all;
        }

        private boolean placeHas(int p, int q) {
            if (form == 0 || form == 4) {
                return p == q;
            }
            int[] to = coords(p);
            int[] from = new int[len.length];
            for (int s = 0; s < len.length && form == 3; s++) {
                from[s] = to[s] + 1 - Integer.lowestOneBit(to[s] + 1);
            }
            return inBox(q, from, to);
        }

        private void boxSets(List<boolean[]> all, int choice, int[] way, int s) {
            if (s < len.length) {
                int count = (choice >> s & 1) == 1 ? pieces(s) - 1 : len[s];
                for (int i = 0; i < count; i++) {
                    way[s] = i;
                    boxSets(all, choice, way, s + 1);
                }
                return;
            }
            boolean[] set = new boolean[val.length];
            for (int q = 0; q < val.length; q++) {
                set[q] = wayHas(choice, way, coords(q));
            }
            all.add(set);
        }

        private boolean wayHas(int choice, int[] way, int[] x) {
            for (int s = 0; s < len.length; s++) {
                boolean has = (choice >> s & 1) == 1
                        ? x[s] / edge < way[s] + 1
                        : x[s] / edge == way[s] / edge && x[s] <= way[s];
                if (!has) {
                    return false;
                }
            }
            return true;
        }

        long numberOf(boolean[] set) {
            long sum = 0;
            for (int p = 0; p < val.length; p++) {
                if (set[p]) {
                    sum += val[p];
                }
            }
            return sum;
        }

        int writes(int place) {
            if (form != 4) {
                int count = 0;
                for (boolean[] set : sets()) {
                    if (set[place]) {
                        count++;
                    }
                }
                return count;
            }
            State then = copy();
            then.use(place);
            return Math.max(1, then.sets().size() - sets().size());
        }

        int reads(int from, int to) {
            int[] begin = coords(from);
            int[] end = coords(to);
            int count = 0;
            if (form == 0 || form == 4) {
                for (int p = 0; p < val.length; p++) {
                    if (inBox(p, begin, end) && (form == 0 || isUsed(p))) {
                        count++;
                    }
                }
                return count;
            }
            long sum = 0;
            for (int corner = 0; corner < 1 << len.length; corner++) {
                int[] x = cornerAt(corner, begin, end);
                if (x != null) {
                    List<Long> parts = new ArrayList<>();
                    parts(parts, x, new int[len.length], new int[len.length], 0);
                    for (long part : parts) {
                        sum += Integer.bitCount(corner) % 2 == 0 ? part : -part;
                    }
                    count += parts.size();
                }
            }
            if (sum != boxSum(begin, end)) {
                throw new AssertionError("what is read does not make up the sum");
            }
            return count;
        }

        private int[] cornerAt(int corner, int[] begin, int[] end) {
            int[] x = end.clone();
            for (int s = 0; s < len.length; s++) {
                if ((corner >> s & 1) == 1) {
                    if (begin[s] == 0) {
                        return null;
                    }
                    x[s] = begin[s] - 1;
                }
            }
            return x;
        }

        /** The NUMBERS by which a corner is put together. */
        private void parts(List<Long> all, int[] corner, int[] low, int[] high, int s) {
            if (s == len.length) {
                all.add(boxSum(low, high));
                return;
            }
            int x = corner[s];
            if (form == 1) {
                part(all, corner, low, high, s, 0, x);
            } else if (form == 2) {
                int pieceBegin = x / edge * edge;
                part(all, corner, low, high, s, pieceBegin, x);
                if (pieceBegin > 0) {
                    part(all, corner, low, high, s, 0, pieceBegin - 1);
                }
            } else {
                while (x >= 0) {
                    int begin = x + 1 - Integer.lowestOneBit(x + 1);
                    part(all, corner, low, high, s, begin, x);
                    x = begin - 1;
                }
            }
        }

        private void part(List<Long> all, int[] corner, int[] low, int[] high, int s, int from,
                int to) {
            low[s] = from;
            high[s] = to;
            parts(all, corner, low, high, s + 1);
        }

        int over() {
            int count = 0;
            for (boolean[] set : sets()) {
                long number = numberOf(set);
                if (number != (int) number) {
                    count++;
                }
            }
            return count;
        }
    }

    static final class Fault extends Exception {
        private static final long serialVersionUID = 1L;
        final int kind;
        final int place;

        Fault(int kind, int place) {
            this.kind = kind;
            this.place = place;
        }
    }

    /** A text cut into words, numbers and signs, each with its first byte. */
    static final class Tokens {
        final List<String> tokens = new ArrayList<>();
        final List<Integer> places = new ArrayList<>();
        int next = 0;

        Tokens(byte[] bytes) {
            StringBuilder text = new StringBuilder();
            for (byte b : bytes) {
                text.append((char) (b & 255));
            }
            java.util.regex.Matcher m = java.util.regex.Pattern
                    .compile("[0-9]+|[a-z]+|[^ ]", java.util.regex.Pattern.DOTALL).matcher(text);
            while (m.find()) {
                tokens.add(m.group());
                places.add(m.start());
            }
            tokens.add("");
            places.add(bytes.length);
        }

        String peek() {
            return tokens.get(next);
        }

        int place() {
            return places.get(next);
        }

        boolean isNumber() {
            return peek().matches("[0-9]+");
        }

        void take(String token) throws Fault {
            if (!peek().equals(token)) {
                throw new Fault(1, place());
            }
            next++;
        }

        int number(long least, long most) throws Fault {
            if (!isNumber()) {
                throw new Fault(1, place());
            }
            java.math.BigInteger n = new java.math.BigInteger(peek());
            if (n.compareTo(java.math.BigInteger.valueOf(least)) < 0
                    || n.compareTo(java.math.BigInteger.valueOf(most)) > 0) {
                throw new Fault(2, place());
            }
            next++;
            return n.intValue();
        }
    }

    /** kind 1 add, 2 sum, 3 again. */
    record Step(int kind, int one, int two, List<Step> body) {
    }

    State now = new State();
    final Deque<State> past = new ArrayDeque<>();
    List<Step> mix = new ArrayList<>();
    int mixSteps = 0;
    byte[] tape = new byte[0];
    int fault = -1;
    final int[] refused = new int[3];

    Model() {
        now.takeOn(0);
    }

    private void there(boolean good) {
        if (!good) {
            refused[0]++;
            throw new NoSuchElementException();
        }
    }

    private void argument(boolean good) {
        if (!good) {
            refused[1]++;
            throw new IllegalArgumentException();
        }
    }

    private void state(boolean good) {
        if (!good) {
            refused[2]++;
            throw new IllegalStateException();
        }
    }

    private void place(int p) {
        there(p >= 0 && p < now.val.length);
    }

    private void sideThere(int s) {
        there(s >= 0 && s < now.len.length);
    }

    private void act() {
        past.addLast(now.copy());
        if (past.size() > 8) {
            past.removeFirst();
        }
    }

    private void dropMix() {
        mix = new ArrayList<>();
        mixSteps = 0;
    }

    int feed(int... five) {
        if (tape.length + 20 > 400) {
            return -1;
        }
        int at = tape.length;
        tape = Arrays.copyOf(tape, at + 20);
        for (int i = 0; i < 20; i++) {
            tape[at + i] = (byte) (five[i / 4] >>> (24 - 8 * (i % 4)));
        }
        return tape.length;
    }

    private byte[] cut(int n) {
        byte[] bytes = Arrays.copyOf(tape, n);
        tape = new byte[0];
        return bytes;
    }

    int text(int n) {
        argument(n >= 0 && n <= tape.length);
        try {
            State told = readCube(new Tokens(cut(n)));
            told.edge = now.edge;
            act();
            now = told;
            dropMix();
            fault = -1;
            return now.val.length;
        } catch (Fault f) {
            fault = f.place;
            return f.kind - 10;
        }
    }

    private static State readCube(Tokens t) throws Fault {
        t.take("sides");
        List<Integer> lengths = new ArrayList<>();
        int places = 1;
        do {
            int where = t.place();
            int n = t.number(1, 16);
            if (lengths.size() == 4) {
                throw new Fault(3, where);
            }
            places *= n;
            if (places > 512) {
                throw new Fault(4, where);
            }
            lengths.add(n);
        } while (t.isNumber());
        t.take(";");
        State told = new State();
        told.len = lengths.stream().mapToInt(i -> i).toArray();
        told.val = new int[places];
        while (!t.peek().isEmpty()) {
            t.take("cell");
            int[] x = new int[told.len.length];
            for (int s = 0; s < x.length; s++) {
                x[s] = t.number(0, told.len[s] - 1);
            }
            t.take(":");
            int sign = 1;
            if (t.peek().equals("-")) {
                t.take("-");
                sign = -1;
            }
            told.val[told.placeOf(x)] = sign * t.number(0, 1000000000);
            t.take(";");
        }
        told.takeOn(0);
        return told;
    }

    int mix(int n) {
        argument(n >= 0 && n <= tape.length && n <= 300);
        try {
            int[] steps = {0};
            Tokens t = new Tokens(cut(n));
            List<Step> read = readSteps(t, 0, steps);
            if (!t.peek().isEmpty()) {
                throw new Fault(1, t.place());
            }
            mix = read;
            mixSteps = steps[0];
            fault = -1;
            return mixSteps;
        } catch (Fault f) {
            fault = f.place;
            return f.kind - 10;
        }
    }

    private static List<Step> readSteps(Tokens t, int depth, int[] steps) throws Fault {
        List<Step> all = new ArrayList<>();
        while (!t.peek().isEmpty() && !(depth > 0 && t.peek().equals("]"))) {
            String word = t.peek();
            int kind = List.of("", "add", "sum", "again").indexOf(word);
            if (kind < 1) {
                throw new Fault(1, t.place());
            }
            if (steps[0] == 40) {
                throw new Fault(4, t.place());
            }
            steps[0]++;
            t.take(word);
            int one = t.number(0, kind == 3 ? 60 : 511);
            int two = kind == 2 ? t.number(0, 511) : 0;
            List<Step> body = null;
            if (kind == 3) {
                int where = t.place();
                t.take("[");
                if (depth == 3) {
                    throw new Fault(3, where);
                }
                body = readSteps(t, depth + 1, steps);
                t.take("]");
            }
            t.take(";");
            all.add(new Step(kind, one, two, body));
        }
        return all;
    }

    int fault() {
        return fault;
    }

    int form(int form) {
        argument(form >= 0 && form <= 4);
        act();
        now.takeOn(form);
        return now.sets().size();
    }

    int edge(int n) {
        argument(n >= 1 && n <= 16);
        act();
        int was = now.edge;
        now.edge = n;
        return was;
    }

    int add(int p, int value) {
        place(p);
        long sum = (long) now.val[p] + value;
        state(sum == (int) sum);
        int written = now.writes(p);
        act();
        now.val[p] = (int) sum;
        now.use(p);
        return written;
    }

    int grow(int s, int n) {
        sideThere(s);
        argument(n >= 1 && n <= 15);
        State next = now.copy();
        next.len[s] += n;
        int places = 1;
        for (int length : next.len) {
            places *= length;
        }
        state(next.len[s] <= 16 && places <= 512);
        next.val = new int[places];
        for (int p = 0; p < now.val.length; p++) {
            next.val[next.placeOf(now.coords(p))] = now.val[p];
        }
        act();
        now = next;
        dropMix();
        return now.sets().size();
    }

    int fold(int side) {
        sideThere(side);
        state(now.len.length > 1);
        State next = now.copy();
        next.len = new int[now.len.length - 1];
        int places = 1;
        for (int s = 0; s < next.len.length; s++) {
            next.len[s] = now.len[s < side ? s : s + 1];
            places *= next.len[s];
        }
        long[] sums = new long[places];
        for (int p = 0; p < now.val.length; p++) {
            int[] x = now.coords(p);
            int[] y = new int[next.len.length];
            for (int s = 0; s < y.length; s++) {
                y[s] = x[s < side ? s : s + 1];
            }
            sums[next.placeOf(y)] += now.val[p];
        }
        next.val = new int[places];
        for (int p = 0; p < places; p++) {
            state(sums[p] == (int) sums[p]);
            next.val[p] = (int) sums[p];
        }
        next.takeOn(now.form);
        act();
        now = next;
        dropMix();
        return places;
    }

    int undo() {
        if (past.isEmpty()) {
            return -1;
        }
        State was = past.removeLast();
        if (!Arrays.equals(was.len, now.len)) {
            dropMix();
        }
        now = was;
        return past.size();
    }

    int told(int what) {
        argument(what >= 0 && what <= 9);
        int notZero = 0;
        for (int v : now.val) {
            notZero += v != 0 ? 1 : 0;
        }
        return switch (what) {
            case 0 -> now.len.length;
            case 1 -> now.val.length;
            case 2 -> now.form;
            case 3 -> now.edge;
            case 4 -> now.sets().size();
            case 5 -> now.over();
            case 6 -> notZero;
            case 7 -> mixSteps;
            case 8 -> tape.length;
            default -> past.size();
        };
    }

    int side(int s, int what) {
        sideThere(s);
        argument(what >= 0 && what <= 2);
        if (what == 1) {
            return now.pieces(s);
        }
        return what == 2 && now.form == 4 ? now.used.get(s).size() : now.len[s];
    }

    int value(int p) {
        place(p);
        return now.val[p];
    }

    int at(int p, int s) {
        place(p);
        sideThere(s);
        return now.coords(p)[s];
    }

    long number(int k) {
        List<boolean[]> sets = now.sets();
        there(k >= 0 && k < sets.size());
        return now.numberOf(sets.get(k));
    }

    private static boolean isBox(State s, int from, int to) {
        int[] a = s.coords(from);
        int[] b = s.coords(to);
        for (int i = 0; i < a.length; i++) {
            if (a[i] > b[i]) {
                return false;
            }
        }
        return true;
    }

    long sum(int from, int to) {
        place(from);
        place(to);
        argument(isBox(now, from, to));
        return now.boxSum(now.coords(from), now.coords(to));
    }

    int reads(int from, int to) {
        place(from);
        place(to);
        argument(isBox(now, from, to));
        return now.reads(from, to);
    }

    int writes(int p) {
        place(p);
        return now.writes(p);
    }

    long slab(int s, int x) {
        sideThere(s);
        there(x >= 0 && x < now.len[s]);
        long sum = 0;
        for (int p = 0; p < now.val.length; p++) {
            sum += now.coords(p)[s] == x ? now.val[p] : 0;
        }
        return sum;
    }

    int other(int form, int what) {
        argument(form >= 0 && form <= 4 && what >= 0 && what <= 1);
        State then = now.copy();
        then.takeOn(form);
        return what == 0 ? then.sets().size() : then.over();
    }

    long cost(int form, int edge) {
        argument(form >= 0 && form <= 4);
        argument(form == 2 ? edge >= 1 && edge <= 16 : edge == 0);
        State then = now.copy();
        if (form == 2) {
            then.edge = edge;
        }
        then.takeOn(form);
        List<Step> order = new ArrayList<>();
        unroll(mix, order);
        long cost = 0;
        for (Step step : order) {
            if (step.one >= then.val.length || step.two >= then.val.length) {
                continue;
            }
            if (step.kind == 1) {
                cost += then.writes(step.one);
                then.use(step.one);
            } else if (isBox(then, step.one, step.two)) {
                cost += then.reads(step.one, step.two);
            }
        }
        return cost;
    }

    private static void unroll(List<Step> steps, List<Step> order) {
        for (Step step : steps) {
            for (int i = 0; step.kind == 3 && i < step.one; i++) {
                unroll(step.body, order);
            }
            if (step.kind != 3 && order.size() < 2000) {
                order.add(step);
            }
        }
    }

    int cheapest(int what) {
        argument(what == 0 || what == 1);
        int best = -1;
        long least = 0;
        for (int i = what; i <= (what == 0 ? 4 : 16); i++) {
            long cost = what == 1 ? cost(2, i) : cost(i, i == 2 ? now.edge : 0);
            if (best < 0 || cost < least) {
                best = i;
                least = cost;
            }
        }
        return best;
    }

    int window(int p) {
        place(p);
        int best = -1;
        long most = 0;
        int[] shape = now.coords(p);
        for (int begin = 0; begin < now.val.length; begin++) {
            int[] from = now.coords(begin);
            int[] to = from.clone();
            boolean fits = true;
            for (int s = 0; s < to.length; s++) {
                to[s] += shape[s];
                fits &= to[s] < now.len[s];
            }
            if (fits && (best < 0 || now.boxSum(from, to) > most)) {
                best = begin;
                most = now.boxSum(from, to);
            }
        }
        return best;
    }

    int least(long much, int what) {
        argument(what >= 0 && what <= 2);
        int[] best = null;
        for (int from = 0; from < now.val.length; from++) {
            for (int to = 0; to < now.val.length; to++) {
                int[] a = now.coords(from);
                int[] b = now.coords(to);
                if (!isBox(now, from, to) || now.boxSum(a, b) < much) {
                    continue;
                }
                int places = 1;
                for (int s = 0; s < a.length; s++) {
                    places *= b[s] - a[s] + 1;
                }
                if (best == null || places < best[0]) {
                    best = new int[] {places, from, to};
                }
            }
        }
        return best == null ? -1 : best[what];
    }

    long print() {
        long all = 0;
        for (boolean[] set : now.sets()) {
            all = all * 31 + now.numberOf(set);
        }
        return all;
    }

    int status(int what) {
        return what < 0 || what > 2 ? -1 : refused[what];
    }
}
