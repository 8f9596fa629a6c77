import java.util.ArrayList;
import java.util.List;

/**
 * Two objects made by the same calls: one gets a call more, that must change nothing (or only what
 * is told), and all that it tells from then on must be what the other one tells.
 */
final class Twins {
    interface Maker {
        CubeForms make();
    }

    interface Ask {
        long of(CubeForms x);
    }

    private Twins() {
    }

    /** A call that throws: which exception, which count rises, and nothing else is changed. */
    static void refused(String what, Maker maker, Ask ask, int kind) {
        CubeForms x = maker.make();
        CubeForms twin = maker.make();
        Check.refused(what, () -> ask.of(x), kind);
        for (int reason = 0; reason < 3; reason++) {
            Check.due(what + ": status(" + reason + ")", x.status(reason),
                    twin.status(reason) + (reason == kind - 1 ? 1 : 0));
        }
        sameFromNow(what, x, twin, true);
    }

    /** A call that answers and changes nothing. */
    static void asked(String what, Maker maker, Ask ask, long want) {
        CubeForms x = maker.make();
        CubeForms twin = maker.make();
        answered(what, x, ask, want);
        sameFromNow(what, x, twin, true);
    }

    /** A call that answers and takes the tape, telling a fault at a place or none. */
    static void tapeTaken(String what, Maker maker, Ask ask, int answer, int fault) {
        CubeForms x = maker.make();
        CubeForms twin = maker.make();
        answered(what, x, ask, answer);
        Check.due(what + ": fault()", x.fault(), fault);
        Check.due(what + ": told(8)", x.told(8), 0);
        sameFromNow(what, x, twin, false);
    }

    /** A call that is not refused: it throws nothing, no count rises. */
    static void answered(String what, CubeForms x, Ask ask, long want) {
        int[] before = {x.status(0), x.status(1), x.status(2)};
        long[] answer = new long[1];
        Check.refused(what, () -> answer[0] = ask.of(x), Check.NOTHING);
        Check.due(what, answer[0], want);
        for (int reason = 0; reason < 3; reason++) {
            Check.due(what + ": status(" + reason + ")", x.status(reason), before[reason]);
        }
    }

    /** Both tell the same now, after each undo(), and of the bytes of the tape, if asked for. */
    private static void sameFromNow(String what, CubeForms x, CubeForms twin, boolean tapeToo) {
        sameNow(what, x, twin, tapeToo);
        for (int i = 0; i < 9; i++) {
            Check.due(what + ": undo()", x.undo(), twin.undo());
            sameNow(what + ", after undo()", x, twin, tapeToo);
        }
        if (tapeToo) {
            int n = Math.min(x.told(8), twin.told(8));
            Check.due(what + ": the bytes of the tape", x.text(n), twin.text(n));
            sameNow(what + ", after text()", x, twin, true);
        }
    }

    private static void sameNow(String what, CubeForms x, CubeForms twin, boolean tapeToo) {
        List<Long> mine = answers(x, tapeToo);
        List<Long> due = answers(twin, tapeToo);
        Check.due(what + ": as many answers", mine.size(), due.size());
        for (int i = 0; i < Math.min(mine.size(), due.size()); i++) {
            if (!mine.get(i).equals(due.get(i))) {
                Check.due(what + ": answer " + i + " of all", mine.get(i), due.get(i));
                return;
            }
        }
    }

    /** All that an object tells without being changed. */
    private static List<Long> answers(CubeForms x, boolean tapeToo) {
        List<Long> all = new ArrayList<>();
        for (int what = 0; what <= 9; what++) {
            all.add(what == 8 && !tapeToo ? 0L : x.told(what));
        }
        all.add(tapeToo ? (long) x.fault() : 0L);
        for (int s = 0; s < x.told(0); s++) {
            for (int what = 0; what < 3; what++) {
                all.add((long) x.side(s, what));
            }
        }
        for (int p = 0; p < x.told(1); p++) {
            all.add((long) x.value(p));
            all.add((long) x.writes(p));
        }
        for (int k = 0; k < Math.min(64, x.told(4)); k++) {
            all.add(x.number(k));
        }
        all.add(x.print());
        all.add((long) x.reads(0, x.told(1) - 1));
        for (int form = 0; form < 5; form++) {
            all.add((long) x.other(form, 0));
            all.add(x.cost(form, form == 2 ? 1 : 0));
        }
        for (int edge = 2; edge <= 16; edge++) {
            all.add(x.cost(2, edge));
        }
        return all;
    }
}
