/** "What is refused answers as told and changes nothing but STATUS.": each refused call of each promise, in many states. */
public final class RefusalsTest {
    private static final int NONE = GuisePack.NONE;
    private static final int HIDDEN = GuisePack.HIDDEN;
    private static final int NO_ACT = Twins.NO_ACT;
    private static final int MOST = Integer.MAX_VALUE;
    private static final int LEAST = Integer.MIN_VALUE;
    private static final int THROWN = 77;
    private static final long MISSING = 0x7ff8000000000000L;
    private static final int[] LOWEST = {2, 1, 0, 4, 1};
    private static final int[] HIGHEST = {16, 16, 14, 16, 8};

    private static Twins.Calls before;

    public static void main(String[] args) {
        Twins.Calls[] withoutColumn = {RefusalsTest::newObject, RefusalsTest::newWithABlock, RefusalsTest::newWithAText};
        Twins.Calls[] withColumn = {RefusalsTest::withoutValues, RefusalsTest::busy, RefusalsTest::undone, RefusalsTest::full};
        for (Twins.Calls state : withoutColumn) {
            before = state;
            noSuchWhatever();
            noColumn();
        }
        for (Twins.Calls state : withColumn) {
            before = state;
            GuisePack x = new GuisePack();
            state.on(x);
            noSuchWhatever();
            noSuchPlace(x.count(0));
            noSuchBlock(x.most(0));
            noSuchPair();
            noSuchWhat();
            noSuchRule();
        }
        noValues();
        tapeIsFull();
        faultOnTheTape();
        whatIsSo();
        noMoreThan64();
        nothingToUndoOrBringBack();
        questionsChangeNothing();
        Due.finish();
    }

    // ---- states ----

    private static int[] block() {
        return Due.checked(Due.joined(Due.row(0, 2), Due.eight(MISSING + 1), Due.eight(Due.bits(-3.75))));
    }

    private static void newObject(GuisePack x) {
        Due.is("no bytes", x.count(1), 0);
    }

    private static void newWithABlock(GuisePack x) {
        Due.bytes(x, block());
    }

    private static void newWithAText(GuisePack x) {
        Due.sign(x, "sb3;1;2;3.5;n");
    }

    private static void withoutValues(GuisePack x) {
        Due.sign(x, "sb3m2");
        x.text();
        Due.sign(x, "1;2");
    }

    private static void busy(GuisePack x) {
        Due.sign(x, "sb4m3e12l9d3;1.5;2.5;-0;n;x7ff0000000000001;7;7;12.25;i");
        x.text();
        x.add(Due.bits(3.5));
        x.put(1, Due.bits(0.125));
        x.swap(0, 5);
        x.image();
        x.set(0, 5);
        x.drop();
        x.add(Due.bits(99));
        x.undo();
        x.put(77, 1);
        x.set(1, 99);
        x.set(1, 3);
        x.write(1);
        Due.bytes(x, block());
    }

    private static void undone(GuisePack x) {
        busy(x);
        for (int k = 0; k < 9; k++) {
            x.undo();
        }
        Due.sign(x, "s;7;8;9");
    }

    private static void full(GuisePack x) {
        Due.sign(x, "sb16m16e14");
        x.text();
        for (int i = 0; i < 64; i++) {
            x.add(i % 3 == 0 ? Due.bits(i / 4.0) : Due.bits(7) + i);
            if (i == 30) {
                x.image();
            }
        }
        for (int i = 0; i < 9; i++) {
            x.put(i, i);
        }
        x.write(2);
        Due.sign(x, "1;2;s" + Due.times(315, " "));
    }

    // ---- what is refused ----

    private static void no(String call, Twins.Call one, long due) {
        Twins.refused(before, call, one, due, NO_ACT);
    }

    private static void noAct(String call, Twins.Call one, int why) {
        Twins.refused(before, call, one, NONE, why);
    }

    /** What is no such one in any state. */
    private static void noSuchWhatever() {
        Due.sentence("Promise 3", "False: n.");
        no("end(321)", x -> x.end(321) ? 1 : 0, 0);
        no("end(-1)", x -> x.end(-1) ? 1 : 0, 0);
        no("end(least)", x -> x.end(LEAST) ? 1 : 0, 0);
        no("end(most)", x -> x.end(MOST) ? 1 : 0, 0);
        no("end of one more", x -> x.end(x.count(1) + 1) ? 1 : 0, 0);
        Due.sentence("Promise 4", "-2: no such sort.");
        no("fault(-1)", x -> x.fault(-1), -2);
        no("fault(2)", x -> x.fault(2), -2);
        Due.sentence("Promise 17", "NONE: no such one.");
        no("octet(-1)", x -> x.octet(-1), NONE);
        no("octet behind the last", x -> x.octet(x.count(2)), NONE);
        no("octet(most)", x -> x.octet(MOST), NONE);
        Due.sentence("Promise 18", "HIDDEN: a FAULT, no such one.");
        no("peek(-1)", x -> x.peek(-1), HIDDEN);
        no("peek(2)", x -> x.peek(2), HIDDEN);
        no("peek(16)", x -> x.peek(16), HIDDEN);
        no("peek(most)", x -> x.peek(MOST), HIDDEN);
        Due.sentence("Promise 25", "NONE: no such what.");
        no("status(-1)", x -> x.status(-1), NONE);
        no("status(5)", x -> x.status(5), NONE);
        Due.sentence("Promise 27", "HIDDEN: no such ones.");
        no("log(-1, 0)", x -> x.log(-1, 0), HIDDEN);
        no("log ahead of the oldest", x -> x.log(x.count(3), 0), HIDDEN);
        no("log(0, 3)", x -> x.log(0, 3), HIDDEN);
        no("log(0, -1)", x -> x.log(0, -1), HIDDEN);
        no("log(most, 0)", x -> x.log(MOST, 0), HIDDEN);
        Due.sentence("Promise 38", "HIDDEN for others.");
        no("count(-1)", x -> x.count(-1), HIDDEN);
        no("count(5)", x -> x.count(5), HIDDEN);
    }

    private static void noColumn() {
        Due.sentence("Promises 6 to 37", "no COLUMN");
        for (int k = 0; k < 5; k++) {
            int what = k;
            no("rule(" + k + ")", x -> x.rule(what), NONE);
            no("saved(" + k + ", ..)", x -> x.saved(what, LOWEST[what]), HIDDEN);
            no("best(" + k + ")", x -> x.best(what), NONE);
            noAct("set(" + k + ", ..)", x -> x.set(what, LOWEST[what]), 0);
            noAct("set(" + k + ", 99)", x -> x.set(what, 99), 0);
        }
        for (int k = 0; k < 14; k++) {
            int what = k;
            no("most(" + k + ")", x -> x.most(what), HIDDEN);
            no("about(0, " + k + ")", x -> x.about(0, what), HIDDEN);
            no("block(0, " + k + ")", x -> x.block(0, what), HIDDEN);
        }
        for (int k = 0; k < 3; k++) {
            int what = k;
            no("common(" + k + ")", x -> x.common(what), HIDDEN);
            no("sum(" + k + ")", x -> x.sum(what), HIDDEN);
            no("alone(" + k + ")", x -> x.alone(what), NONE);
            no("whole(0, " + k + ")", x -> x.whole(0, what), HIDDEN);
        }
        no("value(0)", RefusalsTest::thrownAtFirst, THROWN);
        no("guise(0, 0, 0)", x -> x.guise(0, 0, 0), HIDDEN);
        no("cost(0, 0, 0)", x -> x.cost(0, 0, 0), NONE);
        no("score(0, 0)", x -> x.score(0, 0), NONE);
        no("five(0)", x -> x.five(0), NONE);
        no("part(0, 0)", x -> x.part(0, 0), NONE);
        no("write(0)", x -> x.write(0), NONE);
        no("less(0)", x -> x.less(0), HIDDEN);
        no("near(0, 0)", x -> x.near(0, 0), NONE);
        no("image()", x -> x.image(), NONE);
        no("back()", x -> x.back(), NONE);
        no("undo()", x -> x.undo(), NONE);
        noAct("add(1)", x -> x.add(1), 0);
        noAct("put(0, 1)", x -> x.put(0, 1), 0);
        noAct("drop()", x -> x.drop(), 0);
        noAct("swap(0, 1)", x -> x.swap(0, 1), 0);
        noAct("swap(0, 0)", x -> x.swap(0, 0), 0);
        noAct("set(9, 9)", x -> x.set(9, 9), 0);
        noAct("take()", x -> x.take(), 0);
    }

    private static long thrownAtFirst(GuisePack x) {
        return thrown(x, 0);
    }

    private static long thrown(GuisePack x, int i) {
        try {
            return x.value(i);
        } catch (java.util.NoSuchElementException e) {
            return THROWN;
        }
    }

    private static void noSuchPlace(int size) {
        int[] places = {-1, size, 64, MOST, LEAST};
        for (int place : places) {
            String i = "(" + place + " of " + size + ")";
            Due.sentence("Promises 7 to 9", "no such one, no such ones");
            no("value" + i, x -> thrown(x, place), THROWN);
            for (int k = 0; k < 7; k++) {
                int what = k;
                no("about" + i + " " + k, x -> x.about(place, what), HIDDEN);
            }
            no("guise" + i, x -> x.guise(place, 1, 0), HIDDEN);
            Due.sentence("Promises 20 and 22", "no such place, no such ones (STATUS 0)");
            noAct("put" + i, x -> x.put(place, 5), 0);
            noAct("swap" + i + " and the first", x -> x.swap(place, 0), 0);
            noAct("swap of the first and " + i, x -> x.swap(0, place), 0);
            noAct("swap" + i + " twice", x -> x.swap(place, place), 0);
            Due.sentence("Promises 31 and 34", "no such place, no such ones");
            no("less" + i, x -> x.less(place), HIDDEN);
            no("near" + i + " and the first", x -> x.near(place, 0), NONE);
            no("near of the first and " + i, x -> x.near(0, place), NONE);
        }
    }

    private static void noSuchBlock(int blocks) {
        int[] numbers = {-1, blocks, 32, MOST, LEAST};
        for (int number : numbers) {
            String k = "(" + number + " of " + blocks + ")";
            Due.sentence("Promises 10, 13 to 16", "no such one, no such ones");
            no("cost" + k, x -> x.cost(number, 1, 0), NONE);
            for (int j = 0; j < 8; j++) {
                int what = j;
                no("block" + k + " " + j, x -> x.block(number, what), HIDDEN);
            }
            for (int j = 0; j < 3; j++) {
                int what = j;
                no("whole" + k + " " + j, x -> x.whole(number, what), HIDDEN);
            }
            no("part" + k, x -> x.part(number, 0), NONE);
            no("write" + k, x -> x.write(number), NONE);
        }
    }

    private static void noSuchPair() {
        int[][] pairs = {{-1, -1}, {-1, 0}, {0, -1}, {0, 1}, {7, 8}, {14, 15}, {14, -1}, {15, 0}, {15, 15}, {15, 14},
            {MOST, 0}, {MOST, MOST}, {LEAST, LEAST}, {0, LEAST}, {LEAST, 0}};
        for (int[] pair : pairs) {
            int e = pair[0];
            int f = pair[1];
            Due.sentence("Promises 9 to 11", "no such ones, no such PAIR");
            no("guise(0, " + e + ", " + f + ")", x -> x.guise(0, e, f), HIDDEN);
            no("cost(0, " + e + ", " + f + ")", x -> x.cost(0, e, f), NONE);
            no("score(" + e + ", " + f + ")", x -> x.score(e, f), NONE);
        }
    }

    private static void noSuchWhat() {
        int[] few = {-1, 2, MOST, LEAST};
        for (int what : few) {
            Due.sentence("Promises 28, 29, 33", "no such what");
            no("common(" + what + ")", x -> x.common(what), HIDDEN);
            no("sum(" + what + ")", x -> x.sum(what), HIDDEN);
            no("alone(" + what + ")", x -> x.alone(what), NONE);
        }
        Due.sentence("Promises 8, 12 to 15, 35", "no such one, no such ones, no such what");
        no("about(0, 7)", x -> x.about(0, 7), HIDDEN);
        no("about(0, -1)", x -> x.about(0, -1), HIDDEN);
        no("five(-1)", x -> x.five(-1), NONE);
        no("five(5)", x -> x.five(5), NONE);
        no("block(0, 8)", x -> x.block(0, 8), HIDDEN);
        no("block(0, -1)", x -> x.block(0, -1), HIDDEN);
        no("whole(0, 3)", x -> x.whole(0, 3), HIDDEN);
        no("whole(0, -1)", x -> x.whole(0, -1), HIDDEN);
        no("part(0, -1)", x -> x.part(0, -1), NONE);
        no("part(0, 8)", x -> x.part(0, 8), NONE);
        no("most(14)", x -> x.most(14), HIDDEN);
        no("most(-1)", x -> x.most(-1), HIDDEN);
        no("most(most)", x -> x.most(MOST), HIDDEN);
    }

    private static void noSuchRule() {
        int[] whats = {-1, 5, MOST, LEAST};
        for (int what : whats) {
            Due.sentence("Promises 6, 30, 32", "no such one, no such RULE");
            no("rule(" + what + ")", x -> x.rule(what), NONE);
            no("saved(" + what + ", 5)", x -> x.saved(what, 5), HIDDEN);
            no("best(" + what + ")", x -> x.best(what), NONE);
            Due.sentence("Promise 23", "no such RULE (STATUS 0), of several the first");
            noAct("set(" + what + ", 5)", x -> x.set(what, 5), 0);
            noAct("set(" + what + ", 99)", x -> x.set(what, 99), 0);
        }
        for (int k = 0; k < 5; k++) {
            int what = k;
            int[] outside = {LOWEST[k] - 1, HIGHEST[k] + 1, MOST, LEAST};
            for (int v : outside) {
                Due.sentence("Promise 23", "out of bounds (1)");
                noAct("set(" + k + ", " + v + ")", x -> x.set(what, v), 1);
                Due.sentence("Promise 30", "out of bounds");
                no("saved(" + k + ", " + v + ")", x -> x.saved(what, v), HIDDEN);
            }
            Due.sentence("Promise 23", "it is so (2)");
            noAct("set(" + k + ", as it is)", x -> x.set(what, x.rule(what)), 2);
        }
    }

    private static void noValues() {
        before = RefusalsTest::withoutValues;
        Due.sentence("Promises 12, 28, 33", "no VALUES");
        no("five(0)", x -> x.five(0), NONE);
        for (int k = 0; k < 2; k++) {
            int what = k;
            no("common(" + k + ")", x -> x.common(what), HIDDEN);
            no("alone(" + k + ")", x -> x.alone(what), NONE);
        }
        Due.sentence("Promise 21", "NONE: there is none (STATUS 0).");
        noAct("drop()", x -> x.drop(), 0);
        Due.sentence("Promise 20", "NONE: no such place (STATUS 0)");
        noAct("put(0, 0)", x -> x.put(0, 0), 0);
        Due.sentence("Promise 22", "NONE: no such ones (STATUS 0)");
        noAct("swap(0, 0)", x -> x.swap(0, 0), 0);
    }

    private static void tapeIsFull() {
        Due.sentence("Promise 2", "NONE: more than 320.");
        before = RefusalsTest::full;
        no("feed of a 321st", x -> x.feed(0x31313131, 1, 1, 1, 1), NONE);
        for (int length : new int[] {301, 310, 319, 320}) {
            before = x -> {
                full(x);
                x.end(length);
            };
            no("feed behind " + length, x -> x.feed(0x31313131, 0, -1, 1, 1), NONE);
        }
    }

    private static void faultOnTheTape() {
        Due.sentence("Promise 5", "NONE: a FAULT (the TAPE stays).");
        String[] texts = {"", "1;", "1;2;sb1", "s;s", "x", "7;8;q;9", "sb4m4e4l4d4;1;2;3;4;5;-"};
        for (String text : texts) {
            Twins.Calls[] states = {RefusalsTest::newObject, RefusalsTest::busy, RefusalsTest::full};
            for (Twins.Calls state : states) {
                before = x -> {
                    state.on(x);
                    Due.sign(x, text);
                };
                no("text() of \"" + text + "\"", x -> x.text(), NONE);
            }
        }
        int[] good = block();
        int[][] blocks = {{}, {3}, {0, 17}, java.util.Arrays.copyOf(good, 18), Due.joined(good, Due.row(0)), {0, 0}, {1, 1, 15}};
        for (int[] bytes : blocks) {
            Twins.Calls[] states = {RefusalsTest::withoutValues, RefusalsTest::busy, RefusalsTest::full};
            for (Twins.Calls state : states) {
                before = x -> {
                    state.on(x);
                    Due.bytes(x, bytes);
                };
                Due.sentence("Promise 24", "NONE: a FAULT (4; it goes ahead of 3), the TAPE stays");
                noAct("take() of " + java.util.Arrays.toString(bytes), x -> x.take(), 4);
                Due.sentence("Promise 18", "HIDDEN: a FAULT");
                no("peek(0) of " + java.util.Arrays.toString(bytes), x -> x.peek(0), HIDDEN);
            }
        }
    }

    private static void whatIsSo() {
        before = RefusalsTest::busy;
        Due.sentence("Promise 20", "NONE: it is so (2).");
        for (int i = 0; i < 9; i++) {
            int place = i;
            noAct("put(" + i + ") of what is so", x -> x.put(place, Twins.value(x, place)), 2);
            Due.sentence("Promise 22", "NONE: both are one (2)");
            noAct("swap of one", x -> x.swap(place, place), 2);
        }
        Due.sentence("Promise 22", "NONE: have like bits (2)");
        before = x -> {
            busy(x);
            x.put(3, MISSING);
            x.put(8, MISSING);
        };
        noAct("swap(3, 8)", x -> x.swap(3, 8), 2);
        noAct("swap(8, 3)", x -> x.swap(8, 3), 2);
        Due.sentence("Promise 9", "HIDDEN: it does not FIT");
        no("guise(3, 0, 0)", x -> x.guise(3, 0, 0), HIDDEN);
    }

    private static void noMoreThan64() {
        before = RefusalsTest::full;
        Due.sentence("Promise 19", "NONE: there are 64 (3).");
        noAct("add(5)", x -> x.add(5), 3);
        Due.sentence("Promise 24", "NONE: more than 64 (3; the TAPE stays)");
        before = x -> {
            full(x);
            x.drop();
            Due.bytes(x, block());
        };
        noAct("take() of two to 63", x -> x.take(), 3);
        before = x -> {
            full(x);
            Due.bytes(x, block());
        };
        noAct("take() of two to 64", x -> x.take(), 3);
    }

    private static void nothingToUndoOrBringBack() {
        before = x -> {
            busy(x);
            for (int k = 0; k < 9; k++) {
                x.undo();
            }
        };
        Due.sentence("Promise 26", "NONE: none.");
        no("undo()", x -> x.undo(), NONE);
        Due.sentence("Promise 37", "NONE: no IMAGE of this COLUMN.");
        before = x -> {
            busy(x);
            Due.sign(x, "sb5;1;2;3");
            x.text();
            x.add(4);
            x.add(5);
            x.write(0);
            Due.bytes(x, block());
        };
        no("back()", x -> x.back(), NONE);
    }

    private static void asks(String call, Twins.Call one) {
        Twins.keeps(before, call, one);
    }

    private static void questionsChangeNothing() {
        Due.sentence("Not promised", "Nothing is promised beyond the answers and state changes described: what asks changes nothing");
        Twins.Calls[] states = {RefusalsTest::withoutValues, RefusalsTest::busy, RefusalsTest::undone, RefusalsTest::full};
        for (Twins.Calls state : states) {
            before = state;
            for (int k = 0; k < 14; k++) {
                int what = k;
                asks("most(" + k + ")", x -> x.most(what));
                asks("about(1, " + k + ")", x -> x.about(1, what));
                asks("block(0, " + k + ")", x -> x.block(0, what));
                asks("score(" + k + ", 0)", x -> x.score(what, 0));
                asks("cost(0, " + k + ", 0)", x -> x.cost(0, what, 0));
                asks("guise(0, " + k + ", 0)", x -> x.guise(0, what, 0));
            }
            for (int k = 0; k < 5; k++) {
                int what = k;
                asks("saved(" + k + ", ..)", x -> x.saved(what, LOWEST[what]));
                asks("best(" + k + ")", x -> x.best(what));
                asks("less(" + k + ")", x -> x.less(what));
                asks("part(0, " + k + ")", x -> x.part(0, what));
                asks("whole(0, " + k + ")", x -> x.whole(0, what));
                asks("five(" + k + ")", x -> x.five(what));
                asks("sum(" + k + ")", x -> x.sum(what));
                asks("common(" + k + ")", x -> x.common(what));
                asks("alone(" + k + ")", x -> x.alone(what));
                asks("near(0, " + k + ")", x -> x.near(0, what));
                asks("log(" + k + ", 0)", x -> x.log(what, 0));
                asks("fault(" + k + ")", x -> x.fault(what));
                asks("peek(" + k + ")", x -> x.peek(what));
            }
        }
    }
}
