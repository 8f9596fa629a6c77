import java.nio.charset.StandardCharsets;
import java.util.NoSuchElementException;

/** What all tests use: answers that are due, exceptions as numbers, texts put on the tape. */
final class Check {
    static final int NOTHING = 0;
    static final int NO_SUCH = 1;
    static final int ARGUMENT = 2;
    static final int STATE = 3;
    static final int ANOTHER = 4;

    private static final int MOST_TOLD = 40;
    private static int wrong = 0;
    private static long asked = 0;

    interface Call {
        long ask();
    }

    private Check() {
    }

    static void due(String what, long got, long want) {
        asked++;
        if (got != want) {
            wrong++;
            if (wrong <= MOST_TOLD) {
                System.out.println(what + " answered " + got + ", due is " + want);
            }
        }
    }

    static void refused(String what, Call call, int want) {
        due(what + " throws (1 no such, 2 argument, 3 state, 4 another)", thrownBy(call), want);
    }

    static int thrownBy(Call call) {
        try {
            call.ask();
            return NOTHING;
        } catch (NoSuchElementException e) {
            return NO_SUCH;
        } catch (IllegalArgumentException e) {
            return e.getClass() == IllegalArgumentException.class ? ARGUMENT : ANOTHER;
        } catch (IllegalStateException e) {
            return e.getClass() == IllegalStateException.class ? STATE : ANOTHER;
        } catch (Throwable e) {
            e.printStackTrace(System.out);
            return ANOTHER;
        }
    }

    /** Feeds a text, blanks behind it; answers how many bytes it has itself. */
    static int put(CubeForms x, String text) {
        return put(x, text.getBytes(StandardCharsets.ISO_8859_1));
    }

    static int put(CubeForms x, byte[] bytes) {
        for (int i = 0; i < bytes.length; i += 20) {
            x.feed(four(bytes, i), four(bytes, i + 4), four(bytes, i + 8), four(bytes, i + 12),
                    four(bytes, i + 16));
        }
        return bytes.length;
    }

    static int four(byte[] bytes, int from) {
        int number = 0;
        for (int i = from; i < from + 4; i++) {
            number = number << 8 | (i < bytes.length ? bytes[i] & 255 : ' ');
        }
        return number;
    }

    static CubeForms cube(String text) {
        CubeForms x = new CubeForms();
        x.text(put(x, text));
        return x;
    }

    static int tell(CubeForms x, String text) {
        return x.text(put(x, text));
    }

    static int tellMix(CubeForms x, String text) {
        return x.mix(put(x, text));
    }

    /** A cube of six places with a mix, four acts and USED x, so that any change is seen. */
    static CubeForms rich() {
        CubeForms x = cube("sides 2 3;cell 1 2:9;");
        x.edge(2);
        x.form(4);
        x.add(1, 0);
        tellMix(x, "add 1;again 2[sum 0 5;];");
        return x;
    }

    /** The same with so many times twenty blanks on its tape. */
    static CubeForms fed(int times) {
        CubeForms x = rich();
        for (int i = 0; i < times; i++) {
            x.feed(0x20202020, 0x20202020, 0x20202020, 0x20202020, 0x20202020);
        }
        return x;
    }

    /** All that the object tells of itself without being changed, as one number. */
    static long whole(CubeForms x) {
        long all = x.print();
        for (int what = 0; what <= 9; what++) {
            all = all * 1000003 + x.told(what);
        }
        for (int s = 0; s < x.told(0); s++) {
            all = all * 1000003 + x.side(s, 0) * 31 + x.side(s, 2);
        }
        for (int p = 0; p < x.told(1); p++) {
            all = all * 1000003 + x.value(p);
        }
        for (int form = 0; form < 5; form++) {
            all = all * 1000003 + x.cost(form, form == 2 ? 3 : 0);
        }
        return all * 1000003 + x.fault();
    }

    static void end(String test) {
        System.out.println(test + ": " + asked + " answers, " + wrong + " not as due");
        if (wrong != 0) {
            System.exit(1);
        }
    }
}
