/** The sentences on ACTS, STATUS, the LOG and IMAGES, each by itself: paragraphs 2 and 3, promises 19 to 27, 36 to 38. */
public final class ActSentencesTest {
    private static final int NONE = GuisePack.NONE;
    private static final int HIDDEN = GuisePack.HIDDEN;
    private static final long MINUS = Long.MIN_VALUE;
    private static final long MISSING = 0x7ff8000000000000L;
    private static final int[] LOWEST = {2, 1, 0, 4, 1};
    private static final int[] HIGHEST = {16, 16, 14, 16, 8};
    private static final int[] USUAL = {8, 4, 10, 12, 4};

    public static void main(String[] args) {
        valuesComeToTheEnd();
        sixtyFourAtMost();
        putAtAPlace();
        putNoSuchPlace();
        putIsSo();
        dropTheLastOne();
        dropNone();
        swapTwoPlaces();
        swapNoSuchOnes();
        swapLikeOnes();
        setEachNumber();
        setNoSuchRule();
        takeABlock();
        takeMoreThan64();
        takeAFault();
        statusOfSeveralTheFirst();
        statusNotUndone();
        undoOneByOne();
        undoTheLatest40();
        undoTheLogToo();
        undoNone();
        undoneGoesOnDifferently();
        logOfEachAct();
        logOfTheLatest60();
        logOfNoSuchOne();
        imageKeeps();
        imageInsteadOfTheOneAhead();
        backWithoutImage();
        backCannotBeUndone();
        counts();
        Due.finish();
    }

    private static void status(String what, GuisePack x, int... due) {
        for (int k = 0; k < 5; k++) {
            Due.is(what + ": status(" + k + ")", x.status(k), due[k]);
        }
    }

    private static void latest(String what, GuisePack x, int sort, int number, int size) {
        Due.is(what + ": sort", x.log(0, 0), sort);
        Due.is(what + ": number", x.log(0, 1), number);
        Due.is(what + ": how many VALUES", x.log(0, 2), size);
    }

    private static GuisePack full(int size) {
        GuisePack x = Due.told("s");
        for (int i = 0; i < size; i++) {
            x.add(100 + i);
        }
        return x;
    }

    private static int[] raw(int n) {
        int[] bytes = Due.row(0, n);
        for (int i = 0; i < n; i++) {
            bytes = Due.joined(bytes, Due.eight(500 + i));
        }
        return Due.checked(bytes);
    }

    // ---- Promise 19 ----

    private static void valuesComeToTheEnd() {
        Due.sentence("Promise 19", "A VALUE comes: its place.");
        GuisePack x = Due.told("1;2");
        long[] bits = {0, MINUS, MISSING, -1L, Long.MAX_VALUE, 1};
        for (int i = 0; i < bits.length; i++) {
            Due.is("add", x.add(bits[i]), 2 + i);
            Due.is("value(" + (2 + i) + ")", x.value(2 + i), bits[i]);
            latest("its LOG", x, 0, 2 + i, 3 + i);
        }
        Due.values("all", x, Due.bits(1), Due.bits(2), 0, MINUS, MISSING, -1L, Long.MAX_VALUE, 1);
        Due.sentence("Promise 19", "NONE: no COLUMN (STATUS 0)");
        GuisePack none = new GuisePack();
        Due.is("add", none.add(0), NONE);
        status("once", none, 1, 0, 0, 0, 0);
        Due.is("add", none.add(0), NONE);
        status("twice", none, 2, 0, 0, 0, 0);
        Due.is("nothing came", none.count(0), 0);
        Due.sign(none, "s");
        none.text();
        Due.is("add to an empty COLUMN", none.add(9), 0);
    }

    private static void sixtyFourAtMost() {
        Due.sentence("Paragraph 2", "A COLUMN has VALUES (64 at most), numbered from 0 on");
        GuisePack x = Due.told(Due.times(40, "7;") + "s");
        for (int i = 40; i < 64; i++) {
            Due.is("add", x.add(i), i);
        }
        Due.is("value(63)", x.value(63), 63);
        Due.sentence("Promise 19", "NONE: there are 64 (3).");
        Due.is("add of a 65th", x.add(1), NONE);
        Due.is("add of one that is there", x.add(63), NONE);
        status("two", x, 0, 0, 0, 2, 0);
        Due.is("count(0)", x.count(0), 64);
        Due.is("count(3)", x.count(3), 24);
        Due.is("count(4)", x.count(4), 24);
        x.drop();
        Due.is("add to 63", x.add(5), 63);
        status("still two", x, 0, 0, 0, 2, 0);
    }

    // ---- Promise 20 ----

    private static void putAtAPlace() {
        Due.sentence("Promise 20", "PUT: the place.");
        GuisePack x = full(64);
        int[] places = {0, 1, 31, 62, 63};
        for (int place : places) {
            Due.is("put(" + place + ")", x.put(place, -place - 1), place);
            Due.is("value(" + place + ")", x.value(place), -place - 1);
            latest("its LOG", x, 1, place, 64);
        }
        Due.is("those beside stay", x.value(2), 102);
        Due.is("those beside stay", x.value(61), 161);
    }

    private static void putNoSuchPlace() {
        Due.sentence("Promise 20", "NONE: no such place (STATUS 0)");
        GuisePack none = new GuisePack();
        Due.is("put without COLUMN", none.put(0, 1), NONE);
        status("without COLUMN", none, 1, 0, 0, 0, 0);
        int[] sizes = {0, 1, 63, 64};
        for (int size : sizes) {
            GuisePack x = full(size);
            int[] places = {-1, size, size + 1, 64, Integer.MAX_VALUE, Integer.MIN_VALUE};
            for (int k = 0; k < places.length; k++) {
                Due.is("put(" + places[k] + ") of " + size, x.put(places[k], 1), NONE);
                status("of " + size, x, k + 1, 0, 0, 0, 0);
            }
            Due.is("count(0)", x.count(0), size);
        }
        // A place that was there once.
        GuisePack x = full(2);
        x.drop();
        Due.is("put at the place of one DROPPED", x.put(1, 101), NONE);
        status("DROPPED", x, 1, 0, 0, 0, 0);
    }

    private static void putIsSo() {
        Due.sentence("Promise 20", "NONE: it is so (2).");
        long[] bits = {0, MINUS, MISSING, -1L, 1};
        GuisePack x = Due.of("s", bits);
        for (int i = 0; i < bits.length; i++) {
            Due.is("put of what is so", x.put(i, bits[i]), NONE);
            status("is so", x, 0, 0, i + 1, 0, 0);
        }
        Due.is("no ACT", x.count(4), 5);
        // Like numbers, but not like bits.
        Due.is("put of -0 for 0", x.put(0, MINUS), 0);
        Due.is("put of 0 for -0", x.put(1, 0), 1);
        Due.is("put of another MISSING", x.put(2, MISSING | MINUS), 2);
        Due.is("put of the last bit", x.put(4, 0), 4);
        status("no more", x, 0, 0, 5, 0, 0);
    }

    // ---- Promise 21 ----

    private static void dropTheLastOne() {
        Due.sentence("Promise 21", "The last one is DROPPED: how many are left.");
        GuisePack x = full(64);
        for (int left = 63; left >= 0; left--) {
            Due.is("drop", x.drop(), left);
            latest("its LOG", x, 2, left, left);
            Due.noValue(x, left);
            if (left > 0) {
                Due.is("the one ahead stays", x.value(left - 1), 100 + left - 1);
            }
        }
        Due.is("add behind it", x.add(5), 0);
    }

    private static void dropNone() {
        Due.sentence("Promise 21", "NONE: there is none (STATUS 0).");
        GuisePack none = new GuisePack();
        Due.is("drop without COLUMN", none.drop(), NONE);
        status("without COLUMN", none, 1, 0, 0, 0, 0);
        GuisePack x = Due.told("s");
        Due.is("drop without VALUES", x.drop(), NONE);
        status("without VALUES", x, 1, 0, 0, 0, 0);
        Due.is("count(0)", x.count(0), 0);
        Due.is("count(4)", x.count(4), 0);
        GuisePack y = Due.told("1");
        Due.is("drop of one", y.drop(), 0);
        Due.is("drop of none", y.drop(), NONE);
        status("one and none", y, 1, 0, 0, 0, 0);
        Due.is("the LOG has one", y.count(3), 1);
    }

    // ---- Promise 22 ----

    private static void swapTwoPlaces() {
        Due.sentence("Promise 22", "Two CHANGE places: the first one.");
        GuisePack x = full(64);
        Due.is("swap(0, 63)", x.swap(0, 63), 0);
        latest("the first one told", x, 3, 0, 64);
        Due.is("value(0)", x.value(0), 163);
        Due.is("value(63)", x.value(63), 100);
        Due.is("swap(63, 1)", x.swap(63, 1), 63);
        latest("the first one told, not the lesser", x, 3, 63, 64);
        Due.is("value(1)", x.value(1), 100);
        Due.is("value(63)", x.value(63), 101);
        Due.is("value(2) stays", x.value(2), 102);
        Due.is("swap(1, 0)", x.swap(1, 0), 1);
        Due.is("value(0)", x.value(0), 100);
        GuisePack zeros = Due.told("0;-0;n;-n");
        Due.is("swap of 0 and -0", zeros.swap(0, 1), 0);
        Due.is("swap of two MISSING ones", zeros.swap(3, 2), 3);
        Due.values("by their bits", zeros, MINUS, 0, MISSING | MINUS, MISSING);
    }

    private static void swapNoSuchOnes() {
        Due.sentence("Promise 22", "NONE: no such ones (STATUS 0)");
        GuisePack none = new GuisePack();
        Due.is("swap without COLUMN", none.swap(0, 1), NONE);
        status("without COLUMN", none, 1, 0, 0, 0, 0);
        int[] sizes = {0, 1, 2, 64};
        for (int size : sizes) {
            int[] places = {-1, size, 64, Integer.MAX_VALUE, Integer.MIN_VALUE};
            GuisePack x = full(size);
            int refused = 0;
            for (int place : places) {
                Due.is("swap(0, " + place + ") of " + size, x.swap(0, place), NONE);
                Due.is("swap(" + place + ", 0) of " + size, x.swap(place, 0), NONE);
                // Of several the first: no such place, though both are one.
                Due.is("swap of one place twice", x.swap(place, place), NONE);
                refused += 3;
                status("of " + size, x, refused, 0, 0, 0, 0);
            }
            Due.is("no ACT", x.count(3), Math.min(size, 60));
        }
    }

    private static void swapLikeOnes() {
        Due.sentence("Promise 22", "NONE: both are one, or have like bits (2).");
        GuisePack x = Due.told("5;6;5;n;n;-0");
        Due.is("swap(1, 1)", x.swap(1, 1), NONE);
        status("both are one", x, 0, 0, 1, 0, 0);
        Due.is("swap(0, 2)", x.swap(0, 2), NONE);
        Due.is("swap(2, 0)", x.swap(2, 0), NONE);
        Due.is("swap(3, 4)", x.swap(3, 4), NONE);
        status("like bits", x, 0, 0, 4, 0, 0);
        Due.is("swap(5, 5)", x.swap(5, 5), NONE);
        status("the last one", x, 0, 0, 5, 0, 0);
        Due.is("no ACT", x.count(4), 0);
        Due.is("no LOG", x.count(3), 0);
    }

    // ---- Promise 23 ----

    private static void setEachNumber() {
        Due.sentence("Promise 23", "A RULE is set: what it was. NONE: out of bounds (1), it is so (2).");
        for (int k = 0; k < 5; k++) {
            GuisePack x = Due.told("1");
            int now = USUAL[k];
            int outside = 0;
            int so = 0;
            for (int v = -3; v <= 20; v++) {
                boolean bound = v >= LOWEST[k] && v <= HIGHEST[k];
                int due = !bound || v == now ? NONE : now;
                outside += bound ? 0 : 1;
                so += bound && v == now ? 1 : 0;
                Due.is("set(" + k + ", " + v + ")", x.set(k, v), due);
                now = bound ? v : now;
                Due.is("rule(" + k + ")", x.rule(k), now);
                status("set(" + k + ", " + v + ")", x, 0, outside, so, 0, 0);
                if (due != NONE) {
                    latest("its LOG", x, 4, k, 1);
                }
            }
            Due.is("set as it is", x.set(k, now), NONE);
            Due.is("set to the greatest number", x.set(k, Integer.MAX_VALUE), NONE);
            Due.is("set to the least number", x.set(k, Integer.MIN_VALUE), NONE);
            status("bounds go ahead of what is so", x, 0, outside + 2, so + 1, 0, 0);
            for (int j = 0; j < 5; j++) {
                Due.is("the others stay", x.rule(j), j == k ? HIGHEST[k] : USUAL[j]);
            }
        }
    }

    private static void setNoSuchRule() {
        Due.sentence("Promise 23", "NONE: no COLUMN, no such RULE (STATUS 0)");
        GuisePack none = new GuisePack();
        for (int k = 0; k < 5; k++) {
            Due.is("set without COLUMN", none.set(k, LOWEST[k]), NONE);
            Due.is("set without COLUMN, out of bounds", none.set(k, 99), NONE);
            status("without COLUMN", none, 2 * k + 2, 0, 0, 0, 0);
        }
        GuisePack x = Due.told("s");
        int[] whats = {-1, 5, 6, Integer.MAX_VALUE, Integer.MIN_VALUE};
        for (int k = 0; k < whats.length; k++) {
            Due.is("set(" + whats[k] + ", 8)", x.set(whats[k], 8), NONE);
            Due.is("set(" + whats[k] + ", 99)", x.set(whats[k], 99), NONE);
            status("no such RULE", x, 2 * k + 2, 0, 0, 0, 0);
        }
        Due.is("no ACT", x.count(4), 0);
        Due.is("set of a COLUMN without VALUES", x.set(0, 2), 8);
    }

    // ---- Promise 24 ----

    private static void takeABlock() {
        Due.sentence("Promise 24", "A BLOCK is TAKEN (the TAPE is empty then): how many VALUES.");
        for (int n = 1; n <= 16; n++) {
            GuisePack x = Due.told("1;2");
            Due.bytes(x, raw(n));
            Due.is("take of " + n, x.take(), n);
            Due.is("count(0)", x.count(0), 2 + n);
            Due.is("the TAPE is empty", x.count(1), 0);
            Due.is("value(1) stays", x.value(1), Due.bits(2));
            for (int i = 0; i < n; i++) {
                Due.is("value(" + (2 + i) + ")", x.value(2 + i), 500 + i);
            }
            latest("TAKEN: how many", x, 5, n, 2 + n);
            Due.is("one ACT", x.count(4), 1);
            Due.is("take of the empty TAPE", x.take(), NONE);
            status("the empty TAPE", x, 0, 0, 0, 0, 1);
        }
        Due.sentence("Promise 24", "NONE: no COLUMN (STATUS 0)");
        GuisePack none = new GuisePack();
        Due.bytes(none, raw(2));
        Due.is("take without COLUMN", none.take(), NONE);
        Due.is("the TAPE stays", none.fault(1), NONE);
        none.end(3);
        Due.is("take of a FAULT without COLUMN", none.take(), NONE);
        none.end(0);
        Due.is("take of nothing without COLUMN", none.take(), NONE);
        status("of several the first", none, 3, 0, 0, 0, 0);
    }

    private static void takeMoreThan64() {
        Due.sentence("Promise 24", "NONE: more than 64 (3; the TAPE stays, of a FAULT, too)");
        for (int n = 1; n <= 16; n++) {
            GuisePack x = full(64 - n);
            Due.bytes(x, raw(n));
            Due.is("take of " + n + " to 64", x.take(), n);
            Due.is("count(0)", x.count(0), 64);
            Due.is("value(63)", x.value(63), 500 + n - 1);
            GuisePack y = full(65 - n);
            Due.bytes(y, raw(n));
            int length = y.count(1);
            Due.is("take of " + n + " to 65", y.take(), NONE);
            status("more than 64", y, 0, 0, 0, 1, 0);
            Due.is("count(0)", y.count(0), 65 - n);
            Due.is("the TAPE stays", y.count(1), length);
            Due.is("it is the BLOCK still", y.fault(1), NONE);
            Due.is("no LOG", y.log(0, 0), 0);
            y.drop();
            Due.is("take of " + n + " then", y.take(), n);
        }
    }

    private static void takeAFault() {
        Due.sentence("Promise 24", "NONE: a FAULT (4; it goes ahead of 3).");
        int[] good = raw(16);
        GuisePack x = full(64);
        Due.bytes(x, good);
        Due.is("take of more than 64", x.take(), NONE);
        status("more than 64", x, 0, 0, 0, 1, 0);
        x.end(good.length - 1);
        Due.is("take of a FAULT, and of more than 64", x.take(), NONE);
        status("a FAULT goes ahead", x, 0, 0, 0, 1, 1);
        Due.is("the TAPE stays", x.count(1), good.length - 1);
        x.end(0);
        Due.is("take of nothing", x.take(), NONE);
        status("nothing is a FAULT", x, 0, 0, 0, 1, 2);
        Due.bytes(x, Due.joined(good, Due.row(0)));
        Due.is("take with a byte more", x.take(), NONE);
        status("a byte more", x, 0, 0, 0, 1, 3);
        Due.sign(x, "1;2");
        Due.is("take of a TEXT", x.take(), NONE);
        status("a TEXT", x, 0, 0, 0, 1, 4);
        Due.is("the TEXT stays", x.fault(0), NONE);
    }

    // ---- Promise 25 ----

    private static void statusOfSeveralTheFirst() {
        Due.sentence("Paragraph 2", "STATUS: how many ACTS were refused as there was no such one, no COLUMN (0), out of bounds (1), "
            + "it is so (2), there would be more than 64 (3), a FAULT (4); of several the first");
        GuisePack x = new GuisePack();
        status("a new object", x, 0, 0, 0, 0, 0);
        x.set(9, 99);
        x.take();
        x.add(1);
        status("no COLUMN", x, 3, 0, 0, 0, 0);
        Due.sign(x, "1;1");
        x.text();
        x.set(-1, -1);
        x.swap(2, 2);
        status("no such one", x, 5, 0, 0, 0, 0);
        x.set(0, 1);
        x.set(0, 8);
        x.swap(0, 1);
        x.put(1, Due.bits(1));
        status("bounds and what is so", x, 5, 1, 3, 0, 0);
        x.take();
        status("a FAULT", x, 5, 1, 3, 0, 1);
        Due.sentence("Promise 25", "STATUS. NONE: no such what.");
        int[] whats = {-1, 5, 6, Integer.MAX_VALUE, Integer.MIN_VALUE};
        for (int what : whats) {
            Due.is("status(" + what + ")", x.status(what), NONE);
            Due.is("status(" + what + ") of a new object", new GuisePack().status(what), NONE);
        }
    }

    private static void statusNotUndone() {
        Due.sentence("Paragraph 2", "STATUS: .. not UNDONE");
        GuisePack x = Due.told("1;2");
        x.add(1);
        x.put(7, 7);
        x.set(0, 99);
        x.set(0, 8);
        x.take();
        status("ahead of undo", x, 1, 1, 1, 0, 1);
        x.undo();
        status("behind undo", x, 1, 1, 1, 0, 1);
        x.undo();
        status("behind undo of none", x, 1, 1, 1, 0, 1);
        x.image();
        x.put(-1, 0);
        x.back();
        status("behind BACK", x, 2, 1, 1, 0, 1);
        Due.sign(x, "5");
        x.text();
        status("behind another COLUMN", x, 2, 1, 1, 0, 1);
        Due.sign(x, "5;");
        x.text();
        x.undo();
        x.back();
        x.feed(0, 0, 0, 0, 0);
        x.end(999);
        x.fault(7);
        x.about(9, 9);
        x.write(9);
        x.octet(9);
        x.peek(9);
        x.saved(9, 9);
        x.log(9, 9);
        status("calls that are no ACTS", x, 2, 1, 1, 0, 1);
    }

    // ---- Promise 26 ----

    private static void undoOneByOne() {
        Due.sentence("Promise 26", "The latest ACT is UNDONE: how many still can be.");
        GuisePack x = Due.told("sb4;1;2");
        x.add(7);
        x.put(0, 8);
        x.swap(0, 1);
        x.set(0, 3);
        Due.bytes(x, raw(3));
        x.take();
        x.drop();
        Due.is("six ACTS", x.count(4), 6);
        Due.is("undo of DROPPED", x.undo(), 5);
        Due.values("DROPPED", x, Due.bits(2), 8, 7, 500, 501, 502);
        Due.is("undo of TAKEN", x.undo(), 4);
        Due.values("TAKEN", x, Due.bits(2), 8, 7);
        Due.is("BLOCK still", x.rule(0), 3);
        Due.is("undo of a RULE", x.undo(), 3);
        Due.is("BLOCK as it was", x.rule(0), 4);
        Due.is("undo of CHANGED", x.undo(), 2);
        Due.values("CHANGED", x, 8, Due.bits(2), 7);
        Due.is("undo of PUT", x.undo(), 1);
        Due.values("PUT", x, Due.bits(1), Due.bits(2), 7);
        Due.is("undo of one that came", x.undo(), 0);
        Due.values("came", x, Due.bits(1), Due.bits(2));
        Due.is("count(4)", x.count(4), 0);
        Due.is("undo of none", x.undo(), NONE);
        Due.values("as it was told", x, Due.bits(1), Due.bits(2));
    }

    private static void undoTheLatest40() {
        Due.sentence("Paragraph 2", "All these are ACTS: the latest 40 can be UNDONE one by one");
        int[] acts = {1, 39, 40, 41, 42, 79, 80, 81, 100};
        for (int many : acts) {
            GuisePack x = Due.told("1");
            for (int k = 1; k <= many; k++) {
                x.put(0, k);
                Due.is("ACTS that can be UNDONE behind " + k, x.count(4), Math.min(k, 40));
            }
            int can = Math.min(many, 40);
            for (int k = 1; k <= can; k++) {
                Due.is("undo " + k + " of " + many, x.undo(), can - k);
                Due.is("value(0)", x.value(0), many == k ? Due.bits(1) : many - k);
            }
            Due.is("one more", x.undo(), NONE);
            Due.is("value(0)", x.value(0), many > 40 ? many - 40 : Due.bits(1));
        }
    }

    private static void undoTheLogToo() {
        Due.sentence("Paragraph 2", "(the LOG, too)");
        GuisePack x = Due.told("1;2");
        for (int k = 0; k < 75; k++) {
            x.put(k % 2, k);
        }
        for (int k = 74; k >= 35; k--) {
            Due.is("how long behind " + (k + 1), x.count(3), Math.min(k + 1, 60));
            latest("behind " + (k + 1), x, 1, k % 2, 2);
            if (k + 1 >= 60) {
                Due.is("the oldest is there again", x.log(59, 1), (k + 1 - 60) % 2);
                Due.is("none ahead of it", x.log(60, 0), HIDDEN);
            }
            x.undo();
        }
        Due.is("how long behind 35", x.count(3), 35);
        latest("behind 35", x, 1, 0, 2);
        GuisePack y = Due.told("1");
        y.add(5);
        y.undo();
        Due.is("log(0, 0) of an ACT that is UNDONE", y.log(0, 0), HIDDEN);
        Due.is("count(3)", y.count(3), 0);
    }

    private static void undoNone() {
        Due.sentence("Promise 26", "NONE: none.");
        GuisePack x = new GuisePack();
        Due.is("undo of a new object", x.undo(), NONE);
        x.add(1);
        Due.is("undo of one that was refused", x.undo(), NONE);
        Due.sign(x, "1;2");
        x.text();
        Due.is("undo of a TEXT", x.undo(), NONE);
        x.put(9, 9);
        x.put(0, Due.bits(1));
        x.set(0, 99);
        Due.is("undo of refused ones", x.undo(), NONE);
        x.add(3);
        x.put(9, 9);
        Due.is("undo past a refused one", x.undo(), 0);
        Due.is("count(0)", x.count(0), 2);
        Due.is("undo", x.undo(), NONE);
        x.image();
        Due.is("undo of an IMAGE", x.undo(), NONE);
        x.write(0);
        Due.is("undo of what was written", x.undo(), NONE);
    }

    private static void undoneGoesOnDifferently() {
        Due.sentence("Paragraph 2", "the latest 40 can be UNDONE, others come behind what is UNDONE");
        GuisePack x = Due.told("1");
        for (int k = 0; k < 40; k++) {
            x.put(0, k);
        }
        for (int k = 0; k < 20; k++) {
            x.undo();
        }
        Due.is("twenty left", x.count(4), 20);
        for (int k = 0; k < 30; k++) {
            x.put(0, 1000 + k);
        }
        Due.is("forty again", x.count(4), 40);
        Due.is("how long the LOG is", x.count(3), 50);
        for (int k = 29; k >= 1; k--) {
            x.undo();
            Due.is("value(0)", x.value(0), 1000 + k - 1);
        }
        x.undo();
        Due.is("value(0) ahead of these", x.value(0), 19);
        for (int k = 18; k >= 9; k--) {
            Due.is("undo", x.undo(), k - 9);
            Due.is("value(0)", x.value(0), k);
        }
        Due.is("no more", x.undo(), NONE);
    }

    // ---- Promise 27 ----

    private static void logOfEachAct() {
        Due.sentence("Paragraph 2", "The LOG: of each ACT its sort (0 comes, 1 PUT, 2 DROPPED, 3 CHANGED, 4 RULE, 5 TAKEN), "
            + "a number (the place; CHANGED: the first one told; which RULE; TAKEN: how many), how many VALUES there are then");
        GuisePack x = Due.told("1;2;3");
        x.add(4);
        x.put(2, 5);
        x.swap(3, 1);
        x.drop();
        x.set(4, 8);
        x.set(0, 2);
        Due.bytes(x, raw(7));
        x.take();
        int[] sorts = {5, 4, 4, 2, 3, 1, 0};
        int[] numbers = {7, 0, 4, 3, 3, 2, 3};
        int[] sizes = {10, 3, 3, 3, 4, 4, 4};
        Due.is("how long", x.count(3), 7);
        for (int i = 0; i < 7; i++) {
            Due.is("log(" + i + ", 0)", x.log(i, 0), sorts[i]);
            Due.is("log(" + i + ", 1)", x.log(i, 1), numbers[i]);
            Due.is("log(" + i + ", 2)", x.log(i, 2), sizes[i]);
        }
        // What is refused or is no ACT isn't in it.
        x.add(1);
        x.undo();
        x.put(99, 1);
        x.set(0, 2);
        x.image();
        x.write(0);
        x.take();
        Due.is("how long still", x.count(3), 7);
        latest("the latest still", x, 5, 7, 10);
    }

    private static void logOfTheLatest60() {
        Due.sentence("Paragraph 2", "The LOG: .. the latest 60");
        GuisePack x = Due.told("1;2;3;4;5;6;7");
        for (int k = 1; k <= 130; k++) {
            x.put(k % 7, k);
            int length = Math.min(k, 60);
            if (k > 5 && k < 57 || k > 65 && k < 118 || k > 122 && k < 128) {
                continue;
            }
            Due.is("how long behind " + k, x.count(3), length);
            Due.is("the latest behind " + k, x.log(0, 1), k % 7);
            Due.is("the oldest behind " + k, x.log(length - 1, 1), (k - length + 1) % 7);
            Due.is("one more behind " + k, x.log(length, 1), HIDDEN);
        }
        for (int i = 0; i < 60; i++) {
            Due.is("log(" + i + ", 1)", x.log(i, 1), (130 - i) % 7);
        }
    }

    private static void logOfNoSuchOne() {
        Due.sentence("Promise 27", "The LOG, the latest (i 0), the one ahead of it (1) .. HIDDEN: no such ones.");
        GuisePack x = new GuisePack();
        for (int what = -1; what <= 3; what++) {
            Due.is("log(0, " + what + ") of a new object", x.log(0, what), HIDDEN);
        }
        Due.sign(x, "1");
        x.text();
        Due.is("log(0, 0) without ACTS", x.log(0, 0), HIDDEN);
        x.add(5);
        int[] whats = {-1, 3, 4, Integer.MAX_VALUE, Integer.MIN_VALUE};
        for (int what : whats) {
            Due.is("log(0, " + what + ")", x.log(0, what), HIDDEN);
        }
        int[] places = {-1, 1, 59, 60, Integer.MAX_VALUE, Integer.MIN_VALUE};
        for (int i : places) {
            Due.is("log(" + i + ", 0)", x.log(i, 0), HIDDEN);
        }
        Due.is("log(0, 2)", x.log(0, 2), 2);
    }

    // ---- Promises 36 and 37 ----

    private static void imageKeeps() {
        Due.sentence("Paragraph 3", "An IMAGE keeps VALUES, RULES, the LOG; BACK: they are so again");
        GuisePack x = Due.told("sb4m3e2l5d1;1;2;3");
        x.add(7);
        x.swap(0, 1);
        Due.is("image", x.image(), 4);
        for (int k = 0; k < 5; k++) {
            x.set(k, HIGHEST[k]);
        }
        x.put(0, 99);
        x.drop();
        x.drop();
        for (int k = 0; k < 61; k++) {
            x.add(k);
        }
        Due.is("back", x.back(), 4);
        Due.values("VALUES", x, Due.bits(2), Due.bits(1), Due.bits(3), 7);
        int[] rules = {4, 3, 2, 5, 1};
        for (int k = 0; k < 5; k++) {
            Due.is("rule(" + k + ")", x.rule(k), rules[k]);
        }
        Due.is("how long the LOG is", x.count(3), 2);
        latest("the LOG", x, 3, 0, 4);
        Due.is("log(1, 0)", x.log(1, 0), 0);
        Due.is("log(1, 1)", x.log(1, 1), 3);
        Due.is("what FITS goes by what is", x.guise(0, 0, 0), 2);
        // It is kept still: BACK once more.
        x.put(0, 5);
        x.drop();
        Due.is("back once more", x.back(), 4);
        Due.is("value(0)", x.value(0), Due.bits(2));
        // A LOG of 60 and 64 VALUES.
        GuisePack y = full(64);
        Due.is("image of 64", y.image(), 64);
        for (int k = 0; k < 64; k++) {
            y.drop();
        }
        Due.is("back to 64", y.back(), 64);
        for (int i = 0; i < 64; i++) {
            Due.is("value(" + i + ")", y.value(i), 100 + i);
        }
        Due.is("a LOG of 60", y.count(3), 60);
        Due.is("its oldest", y.log(59, 1), 4);
        Due.is("its latest", y.log(0, 1), 63);
    }

    private static void imageInsteadOfTheOneAhead() {
        Due.sentence("Promise 36", "An IMAGE (instead of the one ahead): how many VALUES. NONE: no COLUMN.");
        GuisePack x = new GuisePack();
        Due.is("image of a new object", x.image(), NONE);
        Due.sign(x, "s");
        x.text();
        Due.is("image without VALUES", x.image(), 0);
        for (int size = 1; size <= 64; size++) {
            x.add(size);
            Due.is("image of " + size, x.image(), size);
        }
        for (int k = 0; k < 30; k++) {
            x.drop();
        }
        Due.is("back to the latest one", x.back(), 64);
        x.drop();
        Due.is("image of 63", x.image(), 63);
        x.add(1);
        Due.is("back to 63", x.back(), 63);
        Due.is("an IMAGE is no ACT", x.count(4), 0);
        x.drop();
        x.image();
        Due.is("an IMAGE leaves ACTS to be UNDONE", x.undo(), 0);
        Due.is("count(0)", x.count(0), 63);
        Due.is("back behind undo", x.back(), 62);
        GuisePack empty = Due.told("s");
        empty.image();
        empty.add(1);
        Due.is("back to none", empty.back(), 0);
        Due.is("count(0)", empty.count(0), 0);
    }

    private static void backWithoutImage() {
        Due.sentence("Promise 37", "BACK: how many VALUES. NONE: no IMAGE of this COLUMN.");
        GuisePack x = new GuisePack();
        Due.is("back of a new object", x.back(), NONE);
        x.image();
        Due.is("back behind an image that was refused", x.back(), NONE);
        Due.sign(x, "1;2");
        x.text();
        x.add(1);
        Due.is("back without IMAGE", x.back(), NONE);
        Due.is("the ACT can still be UNDONE", x.count(4), 1);
        Due.is("count(0)", x.count(0), 3);
        x.image();
        Due.sign(x, "7;");
        x.text();
        Due.is("back behind a TEXT that was refused", x.back(), 3);
        Due.sign(x, "7");
        x.text();
        Due.is("back behind another COLUMN", x.back(), NONE);
        Due.is("value(0)", x.value(0), Due.bits(7));
        // The IMAGE of one like it is another COLUMN's, too.
        x.image();
        Due.sign(x, "7");
        x.text();
        Due.is("back behind a like COLUMN", x.back(), NONE);
    }

    private static void backCannotBeUndone() {
        Due.sentence("Paragraph 3", "BACK: .. (no ACT can be UNDONE then)");
        GuisePack x = Due.told("1;2");
        x.add(1);
        x.add(2);
        x.image();
        x.add(3);
        Due.is("three ACTS", x.count(4), 3);
        Due.is("back", x.back(), 4);
        Due.is("count(4)", x.count(4), 0);
        Due.is("undo", x.undo(), NONE);
        Due.is("count(0)", x.count(0), 4);
        Due.is("the LOG is there", x.count(3), 2);
        x.drop();
        Due.is("one ACT behind it", x.count(4), 1);
        Due.is("undo of it", x.undo(), 0);
        Due.is("undo no further", x.undo(), NONE);
        Due.is("count(0)", x.count(0), 4);
    }

    // ---- Promise 38 ----

    private static void counts() {
        Due.sentence("Promise 38", "0 VALUES, 1 bytes of the TAPE, 2 bytes written latest, 3 how long the LOG is, "
            + "4 ACTS that can be UNDONE. HIDDEN for others.");
        GuisePack x = new GuisePack();
        for (int what = 0; what < 5; what++) {
            Due.is("count(" + what + ") of a new object", x.count(what), 0);
        }
        int[] others = {-1, 5, 6, Integer.MAX_VALUE, Integer.MIN_VALUE};
        for (int what : others) {
            Due.is("count(" + what + ") of a new object", x.count(what), HIDDEN);
        }
        Due.sign(x, "1;2;3");
        x.text();
        x.add(1);
        x.add(2);
        x.add(3);
        x.undo();
        for (int k = 0; k < 60; k++) {
            x.put(0, 10 + k);
        }
        x.feed(1, 2, 3, 4, 5);
        x.end(13);
        x.write(0);
        int[] due = {5, 13, x.block(0, 3), 60, 40};
        for (int what = 0; what < 5; what++) {
            Due.is("count(" + what + ")", x.count(what), due[what]);
        }
        for (int what : others) {
            Due.is("count(" + what + ")", x.count(what), HIDDEN);
        }
    }
}
