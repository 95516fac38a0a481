import java.util.ArrayList;
import java.util.List;
import java.util.NoSuchElementException;

/** Two objects told the same, of which one alone gets one more call: is all else as it was? */
final class Twins {
    interface Calls {
        void on(GuisePack x);
    }

    interface Call {
        long on(GuisePack x);
    }

    interface Look {
        List<Long> of(GuisePack x);
    }

    /** No STATUS counts the call. */
    static final int NO_ACT = -1;

    // Each look at objects of their own, as a look may change them, and as no object answers more than 512 calls.
    private static final Look[] LOOKS = {Twins::column, Twins::log, Twins::written, Twins::questions, Twins::tapeAsText,
        Twins::tapeAsBlock, Twins::tapeAndMore, Twins::undone, Twins::back};
    private static final String[] NAMES = {"the COLUMN", "the LOG", "what was written", "answers", "the TAPE as a COLUMN",
        "the TAPE as a BLOCK", "the TAPE", "ACTS that can be UNDONE", "the IMAGE"};

    private Twins() {
    }

    /** The call is due to answer so, one more of that STATUS, and to leave all else. */
    static void refused(Calls before, String call, Call one, long due, int why) {
        GuisePack x = made(before);
        GuisePack twin = made(before);
        Due.is(call, one.on(x), due);
        for (int k = 0; k < 5; k++) {
            Due.is("status(" + k + ") behind " + call, x.status(k), twin.status(k) + (k == why ? 1 : 0));
        }
        keeps(before, call, one);
    }

    /** The call changes nothing that another call could tell but STATUS. */
    static void keeps(Calls before, String call, Call one) {
        for (int k = 0; k < LOOKS.length; k++) {
            GuisePack x = made(before);
            GuisePack twin = made(before);
            one.on(x);
            boolean like = LOOKS[k].of(x).equals(LOOKS[k].of(twin));
            Due.is(NAMES[k] + " behind " + call + " is as it was", like, true);
        }
    }

    private static GuisePack made(Calls before) {
        GuisePack x = new GuisePack();
        before.on(x);
        return x;
    }

    /** HIDDEN for none: what is compared has the same from both. */
    static long value(GuisePack x, int i) {
        try {
            return x.value(i);
        } catch (NoSuchElementException e) {
            return GuisePack.HIDDEN;
        }
    }

    private static List<Long> column(GuisePack x) {
        List<Long> seen = new ArrayList<>();
        for (int k = 0; k < 5; k++) {
            seen.add((long) x.count(k));
            seen.add((long) x.rule(k));
        }
        for (int i = 0; i < 65; i++) {
            seen.add(value(x, i));
        }
        return seen;
    }

    private static List<Long> log(GuisePack x) {
        List<Long> seen = new ArrayList<>();
        for (int i = 0; i < 61; i++) {
            for (int what = 0; what < 3; what++) {
                seen.add((long) x.log(i, what));
            }
        }
        return seen;
    }

    private static List<Long> written(GuisePack x) {
        List<Long> seen = new ArrayList<>();
        for (int i = 0; i < 140; i++) {
            seen.add((long) x.octet(i));
        }
        return seen;
    }

    private static List<Long> questions(GuisePack x) {
        List<Long> seen = new ArrayList<>();
        for (int what = 0; what < 14; what++) {
            seen.add((long) x.most(what));
        }
        for (int k = 0; k < 2; k++) {
            seen.add(x.common(k));
            seen.add(x.sum(k));
            seen.add((long) x.alone(k));
            seen.add((long) x.less(k));
        }
        for (int k = 0; k < 8; k++) {
            seen.add((long) x.five(k));
            seen.add((long) x.block(0, k));
            seen.add((long) x.block(1, k));
            seen.add((long) x.about(1, k));
            seen.add((long) x.part(0, k));
            seen.add(x.whole(0, k));
            seen.add((long) x.score(k, 0));
            seen.add((long) x.cost(1, k, 0));
            seen.add(x.guise(0, k, k));
            seen.add((long) x.saved(k, 5));
        }
        return seen;
    }

    private static List<Long> tapeAsText(GuisePack x) {
        List<Long> seen = new ArrayList<>();
        seen.add((long) x.fault(0));
        seen.add((long) x.text());
        seen.addAll(column(x));
        return seen;
    }

    private static List<Long> tapeAsBlock(GuisePack x) {
        List<Long> seen = new ArrayList<>();
        seen.add((long) x.fault(1));
        for (int i = 0; i < 17; i++) {
            seen.add(x.peek(i));
        }
        seen.add((long) x.take());
        seen.addAll(column(x));
        return seen;
    }

    /** What is fed then comes behind what is there. */
    private static List<Long> tapeAndMore(GuisePack x) {
        List<Long> seen = new ArrayList<>();
        seen.add((long) x.feed(0x20202020, 0x20202020, 0x20202020, 0x20202020, 0x20202020));
        seen.add((long) x.fault(0));
        seen.add((long) x.fault(1));
        for (int n = 340; n >= 0; n -= 5) {
            seen.add(x.end(n) ? 1L : 0L);
            seen.add((long) x.fault(0));
            seen.add((long) x.fault(1));
        }
        return seen;
    }

    private static List<Long> undone(GuisePack x) {
        List<Long> seen = new ArrayList<>();
        for (int k = 0; k <= 41; k++) {
            seen.add((long) x.undo());
            seen.add((long) x.count(0));
            seen.add((long) x.count(3));
            seen.add(value(x, k % 5));
            seen.add((long) x.rule(k % 5));
            seen.add((long) x.log(0, 1));
        }
        seen.addAll(column(x));
        return seen;
    }

    private static List<Long> back(GuisePack x) {
        List<Long> seen = new ArrayList<>();
        seen.add((long) x.back());
        seen.addAll(column(x));
        seen.addAll(log(x));
        seen.add((long) x.undo());
        return seen;
    }
}
