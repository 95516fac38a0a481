/** The sentences on what is asked of a COLUMN, each by itself: paragraph 3, promises 8, 28 to 35. */
public final class QuestionSentencesTest {
    private static final int NONE = GuisePack.NONE;
    private static final int HIDDEN = GuisePack.HIDDEN;
    private static final long MINUS = Long.MIN_VALUE;
    private static final long INFINITE = 0x7ff0000000000000L;
    private static final long MISSING = 0x7ff8000000000000L;
    private static final int[] LOWEST = {2, 1, 0, 4, 1};
    private static final int[] HIGHEST = {16, 16, 14, 16, 8};
    private static final int[] USUAL = {8, 4, 10, 12, 4};
    private static final int[] NO_SUCH = {-1, 2, 3, Integer.MAX_VALUE, Integer.MIN_VALUE};

    private static final String[] COLUMNS = {"sb4;1;2;n;4;0.5;n;i;3;3;3;3;3", "1.5;2.5;-0.5;7;0.25;100;1000;n;n;0.1;0.2;0.3",
        "sb2m1e3;0.001;0.5;7;1.25;-1.25;x1;x2;x3", "sl16d1;x4011223344556677;x4011123456789abc;x4011fedcba987654;x4011777777777aaa;1;2",
        "sb16m16e14d8;0;0;0;0;0;0;0;0;0;0;0;0;0;0;0;-0", "7", "n", "sb3;1;1000;1;1000;1;1000;1;1000", "s"};

    public static void main(String[] args) {
        placesUpToTop();
        waysUpToTop();
        patterns();
        common();
        commonOfNone();
        runs();
        sumInOrder();
        sumByPairs();
        sumOfFiniteOnes();
        sumOfEachPower();
        sumThatIsNoNumber();
        sumRefused();
        savedAsNow();
        savedBounds();
        bestOfBounds();
        aloneOfAllPairs();
        aloneRefused();
        lessOfEachPlace();
        nearBits();
        mostBlocksAndCosts();
        mostOfBits();
        mostOfForms();
        mostRefused();
        asItIsNow();
        Due.finish();
    }

    private static long[] bits(double... numbers) {
        long[] bits = new long[numbers.length];
        for (int i = 0; i < bits.length; i++) {
            bits[i] = Due.bits(numbers[i]);
        }
        return bits;
    }

    // ---- PLACES and WAYS ----

    private static void placesUpToTop() {
        Due.sentence("Paragraph 3", "PLACES of a VALUE: the least e by which it FITS by some PAIR (e 0 .. TOP). (NONE: none)");
        double[] small = {1, 1e-1, 1e-2, 1e-3, 1e-4, 1e-5, 1e-6, 1e-7, 1e-8, 1e-9, 1e-10, 1e-11, 1e-12, 1e-13, 1e-14, 1e-15};
        GuisePack x = Due.numbers("se14", small);
        for (int top = 14; top >= 0; top--) {
            x.set(2, top);
            for (int k = 0; k < 16; k++) {
                Due.is("PLACES of 1e-" + k + " up to " + top, x.about(k, 1), k <= top ? k : NONE);
            }
        }
        GuisePack y = Due.told("0;-0;n;i;1000;-12.25;x1;123456789.123456789");
        int[] due = {0, NONE, NONE, NONE, 0, 2, NONE};
        for (int i = 0; i < due.length; i++) {
            Due.is("PLACES of value " + i, y.about(i, 1), due[i]);
        }
        Due.is("an f above 0 counts, too", Due.told("s;1.5").about(0, 1), 1);
    }

    private static void waysUpToTop() {
        Due.sentence("Paragraph 3", "WAYS: by how many such PAIRS (e 0 .. TOP) it FITS.");
        GuisePack x = Due.told("0;-0;n;i;x1");
        for (int top = 0; top <= 14; top++) {
            x.set(2, top);
            Due.is("WAYS of 0 up to " + top, x.about(0, 2), (top + 1) * (top + 2) / 2);
            for (int i = 1; i < 5; i++) {
                Due.is("WAYS of none up to " + top, x.about(i, 2), 0);
            }
        }
        double[] numbers = {1.5, 0.3, 0.01, 1000, -7, 0.1 + 0.2, 2251799813685247.0};
        GuisePack y = Due.numbers("se0", numbers);
        for (int top = 0; top <= 14; top += 7) {
            y.set(2, top);
            for (int i = 0; i < numbers.length; i++) {
                int ways = 0;
                GuisePack z = Due.numbers("s", numbers[i]);
                for (int e = 0; e <= top; e++) {
                    for (int f = 0; f <= e; f++) {
                        ways += z.guise(0, e, f) == HIDDEN ? 0 : 1;
                    }
                }
                Due.is("WAYS of " + numbers[i] + " up to " + top, y.about(i, 2), ways);
            }
        }
        Due.is("of 1.5 up to e 2: by 1, 0; 2, 0; 2, 1", Due.told("se2;1.5").about(0, 2), 3);
        Due.is("of 1.5 up to e 1", Due.told("se1;1.5").about(0, 2), 1);
        Due.is("of 1.5 up to e 0", Due.told("se0;1.5").about(0, 2), 0);
    }

    // ---- PATTERNS, COMMON, RUNS ----

    private static void patterns() {
        Due.sentence("Paragraph 3", "PATTERNS: how many unlike VALUES by their bits");
        Due.is("none", Due.told("s").most(3), 0);
        Due.is("one", Due.told("1").most(3), 1);
        Due.is("0 and -0", Due.told("0;-0;0;-0").most(3), 2);
        Due.is("MISSING ones", Due.told("n;-n;x7ff8000000000001;n;x7ff8000000000000").most(3), 3);
        Due.is("one number told otherwise", Due.told("1;1.0;01;x3ff0000000000000").most(3), 1);
        long[] all = new long[64];
        for (int i = 0; i < 64; i++) {
            all[i] = 1L << i;
        }
        Due.is("64 unlike ones", Due.of("s", all).most(3), 64);
        Due.is("64 like ones", Due.of("s", new long[64]).most(3), 1);
    }

    private static void common() {
        Due.sentence("Paragraph 3", "COMMON: the one that most have (of several the first).");
        GuisePack x = Due.told("3;n;n;3;-0;0");
        Due.is("of two the first", x.common(0), Due.bits(3));
        Due.is("how many", x.common(1), 2);
        x.add(MISSING);
        Due.is("the later one has more", x.common(0), MISSING);
        Due.is("how many", x.common(1), 3);
        Due.is("one alone", Due.told("5").common(0), Due.bits(5));
        Due.is("how many", Due.told("5").common(1), 1);
        Due.is("all unlike", Due.told("9;8;7").common(0), Due.bits(9));
        Due.is("the last two", Due.told("9;8;7;7").common(0), Due.bits(7));
        Due.is("by bits", Due.told("0;-0;-0").common(0), MINUS);
        Due.is("64 like ones", Due.of("s", new long[64]).common(1), 64);
    }

    private static void commonOfNone() {
        Due.sentence("Promise 28", "COMMON: its bits (0), how many have it (1). HIDDEN: no VALUES, no such what.");
        for (int what = 0; what <= 1; what++) {
            Due.is("common(" + what + ") of a new object", new GuisePack().common(what), HIDDEN);
            Due.is("common(" + what + ") without VALUES", Due.told("s").common(what), HIDDEN);
        }
        GuisePack x = Due.told("1");
        for (int what : NO_SUCH) {
            Due.is("common(" + what + ")", x.common(what), HIDDEN);
        }
        x.drop();
        Due.is("common(0) of one DROPPED", x.common(0), HIDDEN);
    }

    private static void runs() {
        Due.sentence("Paragraph 3", "RUNS: into how many stretches of like VALUES one behind another the COLUMN falls.");
        Due.is("none", Due.told("s").most(4), 0);
        Due.is("one", Due.told("1").most(4), 1);
        Due.is("two like ones", Due.told("1;1").most(4), 1);
        Due.is("two unlike ones", Due.told("1;2").most(4), 2);
        Due.is("there and back", Due.told("1;2;1").most(4), 3);
        Due.is("three of two", Due.told("1;1;2;2;1;1").most(4), 3);
        Due.is("0 and -0", Due.told("0;-0;-0;0").most(4), 3);
        Due.is("MISSING ones", Due.told("n;n;-n").most(4), 2);
        Due.is("past BLOCKS", Due.told("sb2;1;1;1;1;1").most(4), 1);
        long[] turns = new long[64];
        for (int i = 0; i < 64; i++) {
            turns[i] = i % 2;
        }
        Due.is("64 turns", Due.of("s", turns).most(4), 64);
        Due.is("64 like ones", Due.of("s", new long[64]).most(4), 1);
        Due.is("the last one unlike", Due.told("1;1;1;2").most(4), 2);
    }

    // ---- SUM ----

    private static void sumInOrder() {
        Due.sentence("Paragraph 3", "SUM: of FINITE VALUES in order, from 0 on, in double precision");
        Due.is("none", Due.told("s").sum(0), 0);
        Due.is("one", Due.told("1.5").sum(0), Due.bits(1.5));
        Due.is("-0 from 0 on", Due.told("-0").sum(0), 0);
        Due.is("-0 and -0 from 0 on", Due.told("-0;-0").sum(0), 0);
        Due.is("0.1 and so on", Due.told("0.1;0.2;0.3").sum(0), Due.bits(0.1 + 0.2 + 0.3));
        Due.is("in order", Due.numbers("s", 1e16, 1, 1).sum(0), Due.bits(1e16));
        Due.is("in another order", Due.numbers("s", 1, 1, 1e16).sum(0), Due.bits(1e16 + 2));
        Due.is("what goes away", Due.numbers("s", 1e16, 1, -1e16).sum(0), 0);
        Due.is("1 and -1 are 0, not -0", Due.numbers("s", -1, 1).sum(0), 0);
        double[] many = new double[64];
        double total = 0;
        for (int i = 0; i < 64; i++) {
            many[i] = 0.1 * i - 1e15 / (i + 1);
            total += many[i];
        }
        Due.is("all 64", Due.numbers("s", many).sum(0), Due.bits(total));
    }

    private static void sumByPairs() {
        Due.sentence("Paragraph 3", "by PAIRS: neighbours are added two by two (a last one alone stays), and so on, till one is left (without any: 0)");
        double a = 0.1;
        double b = 0.2;
        double c = 0.3;
        double d = 1e16;
        double e = 1;
        double f = -1e16;
        double g = 0.7;
        double h = 3e15;
        double i = 5.5;
        Due.is("none", Due.told("s").sum(1), 0);
        Due.is("none FINITE", Due.told("n;i").sum(1), 0);
        GuisePack gone = Due.told("5;6");
        Due.is("two of them", gone.sum(1), Due.bits(11));
        gone.drop();
        gone.put(0, MISSING);
        Due.is("none FINITE any more", gone.sum(1), 0);
        gone.drop();
        Due.is("none any more", gone.sum(1), 0);
        Due.is("one", Due.numbers("s", a).sum(1), Due.bits(a));
        Due.is("-0 alone", Due.told("-0").sum(1), MINUS);
        Due.is("-0 and -0", Due.told("-0;-0").sum(1), MINUS);
        Due.is("-0 and 0", Due.told("-0;0").sum(1), 0);
        Due.is("-0, -0 and 0", Due.told("-0;-0;0").sum(1), 0);
        Due.is("two", Due.numbers("s", a, b).sum(1), Due.bits(a + b));
        Due.is("three", Due.numbers("s", d, e, f).sum(1), Due.bits(d + e + f));
        Due.is("four", Due.numbers("s", d, e, f, e).sum(1), Due.bits((d + e) + (f + e)));
        Due.is("four otherwise", Due.numbers("s", a, b, c, g).sum(1), Due.bits((a + b) + (c + g)));
        Due.is("five", Due.numbers("s", a, b, c, g, d).sum(1), Due.bits(((a + b) + (c + g)) + d));
        Due.is("six", Due.numbers("s", d, e, f, e, a, b).sum(1), Due.bits(((d + e) + (f + e)) + (a + b)));
        Due.is("seven", Due.numbers("s", a, b, c, d, e, f, g).sum(1), Due.bits(((a + b) + (c + d)) + ((e + f) + g)));
        Due.is("eight", Due.numbers("s", a, b, c, d, e, f, g, h).sum(1), Due.bits(((a + b) + (c + d)) + ((e + f) + (g + h))));
        Due.is("nine", Due.numbers("s", a, b, c, d, e, f, g, h, i).sum(1),
            Due.bits((((a + b) + (c + d)) + ((e + f) + (g + h))) + i));
        // 64 of them: six rounds.
        double[] many = new double[64];
        for (int k = 0; k < 64; k++) {
            many[k] = 1.0 / (k + 3) + k * 1e13;
        }
        long due = Due.numbers("s", many).sum(1);
        for (int left = 64; left > 1; left /= 2) {
            for (int k = 0; k < left / 2; k++) {
                many[k] = many[2 * k] + many[2 * k + 1];
            }
        }
        Due.is("sixty-four", due, Due.bits(many[0]));
    }

    private static void sumOfFiniteOnes() {
        Due.sentence("Paragraph 3", "SUM: of FINITE VALUES (others are left out; neighbours are FINITE ones)");
        Due.is("in order", Due.told("n;1;i;2;-i;-n;4").sum(0), Due.bits(7));
        Due.is("by PAIRS", Due.told("n;1;i;2;-i;-n;4").sum(1), Due.bits(7));
        GuisePack x = Due.of("s", Due.bits(1e16), MISSING, Due.bits(1), INFINITE, Due.bits(1), Due.bits(-1e16));
        Due.is("in order with gaps", x.sum(0), 0);
        Due.is("by PAIRS with gaps", x.sum(1), Due.bits((1e16 + 1) + (1 + -1e16)));
        // By places it would be another one.
        GuisePack y = Due.of("s", Due.bits(0.1), MISSING, Due.bits(0.2), Due.bits(0.3), Due.bits(0.7));
        Due.is("neighbours among FINITE ones", y.sum(1), Due.bits((0.1 + 0.2) + (0.3 + 0.7)));
        Due.is("the greatest FINITE one", Due.of("s", 0x7fefffffffffffffL).sum(0), 0x7fefffffffffffffL);
        Due.is("the least above 0", Due.of("s", 1L).sum(0), 1);
        Due.is("two of the least", Due.of("s", 1L, 1L).sum(1), 2);
        Due.is("up to the first normal one", Due.of("s", 0x000fffffffffffffL, 1L).sum(0), 0x0010000000000000L);
        Due.is("down from it", Due.of("s", 0x0010000000000000L, MINUS | 1).sum(0), 0x000fffffffffffffL);
        Due.is("below 0", Due.of("s", 0x8010000000000000L, 1L).sum(1), 0x800fffffffffffffL);
    }

    /** Each power of 2, and the numbers beside it, alone: the sum is that number. */
    private static void sumOfEachPower() {
        Due.sentence("Paragraph 3", "SUM: .. in double precision (of each size)");
        GuisePack x = Due.told("0");
        int asked = 0;
        for (int exponent = 0; exponent <= 2046; exponent++) {
            long power = (long) exponent << 52;
            long[] bits = {power, power + 1, power | (1L << 52) - 1, power + 0x000a5a5a5a5a5a5aL, power | 1L << exponent % 52};
            for (long number : bits) {
                if (asked % 200 == 0) {
                    x = Due.told("0");
                }
                long signed = asked % 3 == 0 && number != 0 ? number | MINUS : number;
                x.put(0, signed);
                Due.is("sum of " + Long.toHexString(signed), x.sum(asked % 2), signed);
                asked++;
            }
        }
    }

    private static void sumThatIsNoNumber() {
        Due.sentence("Paragraph 3", "SUM: what is no number then is told as 7ff8 and twelve 0");
        double max = Double.MAX_VALUE;
        Due.is("beyond all numbers and back", Due.numbers("s", max, max, -max, -max).sum(1), MISSING);
        Due.is("below all numbers and back", Due.numbers("s", -max, -max, max, max).sum(1), MISSING);
        Due.is("no number and a number", Due.numbers("s", max, max, -max, -max, 1, 1).sum(1), MISSING);
        Due.is("no number and one beyond all", Due.numbers("s", max, max, -max, -max, max, max).sum(1), MISSING);
        Due.is("no number and a last one", Due.numbers("s", max, max, -max, -max, 7).sum(1), MISSING);
        Due.is("a number and no number", Due.numbers("s", 1, 1, 1, 1, max, max, -max, -max).sum(1), MISSING);
        Due.is("twice no number", Due.numbers("s", max, max, -max, -max, max, max, -max, -max).sum(1), MISSING);
        // In order none comes back from beyond all.
        Due.is("beyond all in order", Due.numbers("s", max, max, -max, -max, -max).sum(0), INFINITE);
        Due.is("below all in order", Due.numbers("s", -max, -max, max, max, 1).sum(0), INFINITE | MINUS);
        Due.is("beyond all by PAIRS", Due.numbers("s", max, max, max, max).sum(1), INFINITE);
        Due.is("below all by PAIRS", Due.numbers("s", -max, -max, 5).sum(1), INFINITE | MINUS);
        Due.is("just beyond", Due.numbers("s", max, 0x1p970).sum(0), INFINITE);
        Due.is("just not beyond", Due.of("s", Due.bits(max), Due.bits(0x1p970) - 1).sum(0), 0x7fefffffffffffffL);
    }

    private static void sumRefused() {
        Due.sentence("Promise 29", "SUM: in order (0), by PAIRS (1), as bits. HIDDEN: no COLUMN, no such what.");
        for (int what = 0; what <= 1; what++) {
            Due.is("sum(" + what + ") of a new object", new GuisePack().sum(what), HIDDEN);
            Due.is("sum(" + what + ") without VALUES", Due.told("s").sum(what), 0);
        }
        GuisePack x = Due.told("1");
        for (int what : NO_SUCH) {
            Due.is("sum(" + what + ")", x.sum(what), HIDDEN);
            Due.is("sum(" + what + ") without VALUES", Due.told("s").sum(what), HIDDEN);
        }
    }

    // ---- SAVED, BEST ----

    private static void savedAsNow() {
        Due.sentence("Paragraph 3", "SAVED by a RULE set otherwise: COSTS of all BLOCKS as now less those as they would be then.");
        for (String text : COLUMNS) {
            for (int what = 0; what < 5; what++) {
                for (int v = LOWEST[what]; v <= HIGHEST[what]; v++) {
                    GuisePack x = Due.told(text);
                    int now = x.most(1);
                    int saved = x.saved(what, v);
                    Due.is("COSTS stay", x.most(1), now);
                    x.set(what, v);
                    Due.is("saved(" + what + ", " + v + ") of " + text, saved, now - x.most(1));
                    Due.is("as it is now", x.saved(what, v), 0);
                }
            }
        }
        GuisePack x = Due.told("1;2;3;4;5;6;7;8;9");
        Due.is("by hand: one BLOCK for two", x.saved(0, 9), 29 - 20);
        Due.is("by hand: more BLOCKS cost more", x.saved(0, 4), 29 - (16 + 16 + 11));
        Due.is("a last one alone is RAW", Due.told("1;2;3;4;5;6;7;8;9").block(1, 3), 11);
    }

    private static void savedBounds() {
        Due.sentence("Promise 30", "SAVED. HIDDEN: no COLUMN, no such RULE, out of bounds.");
        GuisePack none = new GuisePack();
        GuisePack x = Due.told("1;2");
        for (int what = 0; what < 5; what++) {
            Due.is("saved without COLUMN", none.saved(what, LOWEST[what]), HIDDEN);
            Due.is("saved(" + what + ") below", x.saved(what, LOWEST[what] - 1), HIDDEN);
            Due.is("saved(" + what + ") least", x.saved(what, LOWEST[what]) != HIDDEN, true);
            Due.is("saved(" + what + ") greatest", x.saved(what, HIGHEST[what]) != HIDDEN, true);
            Due.is("saved(" + what + ") above", x.saved(what, HIGHEST[what] + 1), HIDDEN);
            Due.is("saved(" + what + ") of the greatest number", x.saved(what, Integer.MAX_VALUE), HIDDEN);
            Due.is("saved(" + what + ") of the least number", x.saved(what, Integer.MIN_VALUE), HIDDEN);
            Due.is("saved(" + what + ") as it is", x.saved(what, USUAL[what]), 0);
            Due.is("rule(" + what + ") stays", x.rule(what), USUAL[what]);
            Due.is("saved(" + what + ") without VALUES", Due.told("s").saved(what, LOWEST[what]), 0);
        }
        int[] whats = {-1, 5, 6, Integer.MAX_VALUE, Integer.MIN_VALUE};
        for (int what : whats) {
            Due.is("saved(" + what + ", 4)", x.saved(what, 4), HIDDEN);
        }
        Due.is("no STATUS of it", x.status(0) + x.status(1) + x.status(2), 0);
    }

    private static void bestOfBounds() {
        Due.sentence("Paragraph 3", "BEST for a RULE: the number (of its bounds) by which COSTS of all BLOCKS, added up, are least (of several the least).");
        for (String text : COLUMNS) {
            GuisePack x = Due.told(text);
            for (int what = 0; what < 5; what++) {
                int due = LOWEST[what];
                for (int v = LOWEST[what]; v <= HIGHEST[what]; v++) {
                    due = x.saved(what, v) > x.saved(what, due) ? v : due;
                }
                Due.is("best(" + what + ") of " + text, x.best(what), due);
            }
        }
        GuisePack x = Due.told("1;2;3;4;5;6;7;8;9");
        Due.is("BLOCK: 9 .. 16 are alike", x.best(0), 9);
        Due.is("SAMPLE: all are alike", x.best(1), 1);
        Due.is("HIGH: all are alike", x.best(3), 4);
        Due.is("DICTIONARY: all are alike", x.best(4), 1);
        Due.is("TOP of no places", x.best(2), 0);
        Due.is("TOP of two places", Due.told("1.25;2.5;3.75;4.15;5.05").best(2), 2);
        double[] small = {1e-14, 2e-14, 3e-14, 5e-14};
        Due.is("TOP of fourteen places", Due.numbers("s", small).best(2), 14);
        double[] whole = {1, 1, 1, 1, 1, 1, 1, 1, 1, 1, 1, 1, 1, 1, 1, 1};
        Due.is("BLOCK of sixteen", Due.numbers("sb2", whole).best(0), 16);
        GuisePack two = Due.told("sb16;0;0;7777777.7;7777777.7;0;0;7777777.7;7777777.7");
        Due.is("the greatest bound is looked at", two.best(0) >= 2, true);
        Due.sentence("Promise 32", "BEST. NONE: no COLUMN, no such RULE.");
        int[] whats = {-1, 5, 6, Integer.MAX_VALUE, Integer.MIN_VALUE};
        for (int what : whats) {
            Due.is("best(" + what + ")", x.best(what), NONE);
        }
        for (int what = 0; what < 5; what++) {
            Due.is("best(" + what + ") of a new object", new GuisePack().best(what), NONE);
            Due.is("best(" + what + ") without VALUES", Due.told("s").best(what), LOWEST[what]);
        }
    }

    // ---- ALONE ----

    private static void aloneOfAllPairs() {
        Due.sentence("Paragraph 3", "ALONE: by which one PAIR (e 0 .. TOP), were it that of each BLOCK, all COSTS of DECIMAL added up "
            + "would be least (of several the lesser e, then the lesser f)");
        for (String text : COLUMNS) {
            GuisePack x = Due.told(text);
            for (int top = 0; top <= 14 && x.count(0) > 0; top += 7) {
                x.set(2, top);
                int pair = NONE;
                int least = Integer.MAX_VALUE;
                for (int e = 0; e <= top; e++) {
                    for (int f = 0; f <= e; f++) {
                        GuisePack y = Due.told(text);
                        int all = 0;
                        for (int k = 0; k < y.most(0); k++) {
                            all += y.cost(k, e, f);
                        }
                        pair = all < least ? 16 * e + f : pair;
                        least = Math.min(all, least);
                    }
                }
                Due.is("alone(0) of " + text + " up to " + top, x.alone(0), pair);
                Due.is("alone(1) of " + text + " up to " + top, x.alone(1), least);
            }
        }
        Due.is("all alike", Due.told("se14;0;0").alone(0), 0);
        Due.is("of several the lesser f", Due.told("se1;n;0").alone(0), 0);
        Due.is("its COSTS", Due.told("n;0").alone(1), 24);
        Due.is("up to TOP", Due.told("se1;1.25").alone(0), 0);
        Due.is("TOP itself", Due.told("se2;1.25").alone(0), 32);
        // Not the one of the least SCORE: SAMPLES have whole numbers alone.
        GuisePack x = Due.told("sb4m1;1;0.5;0.25;0.75;2;1.5;0.5;2.5");
        Due.is("five(0)", x.five(0), 0);
        Due.is("ALONE goes by all VALUES", x.alone(0), 32);
        Due.is("COSTS as DECIMAL though RAW costs less", Due.told("n;i").alone(1), 15 + 18);
    }

    private static void aloneRefused() {
        Due.sentence("Promise 33", "ALONE: 16 times e and f (0), the COSTS (1). NONE: no VALUES, no such what.");
        for (int what = 0; what <= 1; what++) {
            Due.is("alone(" + what + ") of a new object", new GuisePack().alone(what), NONE);
            Due.is("alone(" + what + ") without VALUES", Due.told("s").alone(what), NONE);
        }
        GuisePack x = Due.told("1");
        for (int what : NO_SUCH) {
            Due.is("alone(" + what + ")", x.alone(what), NONE);
        }
        Due.is("14, 0", Due.numbers("se14", 1e-14, 2e-14).alone(0), 224);
        Due.is("its COSTS", Due.numbers("se14", 1e-14, 2e-14).alone(1), 16);
    }

    // ---- LESS and NEAR ----

    private static void lessOfEachPlace() {
        Due.sentence("Paragraph 3", "LESS of a VALUE: COSTS of all BLOCKS as now less those as they would be without it (all behind it one place ahead).");
        for (String text : COLUMNS) {
            GuisePack x = Due.told(text);
            int now = x.most(1);
            int size = x.count(0);
            String rules = "sb" + x.rule(0) + "m" + x.rule(1) + "e" + x.rule(2) + "l" + x.rule(3) + "d" + x.rule(4);
            for (int i = 0; i < size; i++) {
                long[] others = new long[size - 1];
                for (int j = 0; j < size - 1; j++) {
                    others[j] = x.value(j < i ? j : j + 1);
                }
                Due.is("less(" + i + ") of " + text, x.less(i), now - Due.of(rules, others).most(1));
            }
            Due.is("COSTS stay", x.most(1), now);
            Due.is("VALUES stay", x.count(0), size);
        }
        Due.is("of one alone", Due.told("n").less(0), 11);
        // The second BLOCK is gone with its only VALUE, and with one of the first, too.
        GuisePack x = Due.told("sb4;5;5;5;5;5");
        Due.is("less(4)", x.less(4), 11);
        Due.is("less(0)", x.less(0), 11);
        GuisePack full = Due.of("sb16", new long[64]);
        Due.is("less(63) of 64", full.less(63), 0);
        Due.is("less(0) of 64", full.less(0), 0);
        Due.sentence("Promise 31", "LESS. HIDDEN: no such place.");
        int[] places = {-1, 5, 64, Integer.MAX_VALUE, Integer.MIN_VALUE};
        for (int i : places) {
            Due.is("less(" + i + ")", x.less(i), HIDDEN);
            Due.is("less(" + i + ") of a new object", new GuisePack().less(i), HIDDEN);
        }
        Due.is("less(0) of a new object", new GuisePack().less(0), HIDDEN);
        Due.is("less(0) without VALUES", Due.told("s").less(0), HIDDEN);
        Due.is("less(64) of 64", full.less(64), HIDDEN);
    }

    private static void nearBits() {
        Due.sentence("Paragraph 3", "NEAR, two places: how many bits both VALUES have unlike.");
        for (int k = 0; k < 64; k++) {
            GuisePack x = Due.of("s", 0x5a5a5a5a5a5a5a5aL, 0x5a5a5a5a5a5a5a5aL ^ 1L << k, 0x5a5a5a5a5a5a5a5aL ^ -1L >>> k);
            Due.is("one bit, " + k, x.near(0, 1), 1);
            Due.is("the other way", x.near(1, 0), 1);
            Due.is("the last " + (64 - k), x.near(0, 2), 64 - k);
            Due.is("one place twice", x.near(k % 3, k % 3), 0);
        }
        Due.is("like ones", Due.told("7;7").near(0, 1), 0);
        Due.is("all", Due.told("x0;xffffffffffffffff").near(1, 0), 64);
        Due.is("0 and -0", Due.told("0;-0").near(0, 1), 1);
        Due.sentence("Promise 34", "NEAR. NONE: no such ones.");
        GuisePack x = Due.told("1;2;3");
        int[] places = {-1, 3, 64, Integer.MAX_VALUE, Integer.MIN_VALUE};
        for (int i : places) {
            Due.is("near(0, " + i + ")", x.near(0, i), NONE);
            Due.is("near(" + i + ", 0)", x.near(i, 0), NONE);
            Due.is("near(" + i + ", " + i + ")", x.near(i, i), NONE);
        }
        Due.is("near(2, 2)", x.near(2, 2), 0);
        Due.is("near of a new object", new GuisePack().near(0, 0), NONE);
        Due.is("near without VALUES", Due.told("s").near(0, 0), NONE);
    }

    // ---- Promise 35 ----

    private static void mostBlocksAndCosts() {
        Due.sentence("Promise 35", "BLOCKS (0), COSTS of all in their FORMS (1), bytes of all as RAW BLOCKS (2)");
        for (String text : COLUMNS) {
            GuisePack x = Due.told(text);
            int size = x.count(0);
            int blocks = (size + x.rule(0) - 1) / x.rule(0);
            int costs = 0;
            for (int k = 0; k < blocks; k++) {
                costs += x.block(k, 3);
            }
            Due.is("most(0) of " + text, x.most(0), blocks);
            Due.is("most(1) of " + text, x.most(1), costs);
            Due.is("most(2) of " + text, x.most(2), 3 * blocks + 8 * size);
        }
        Due.is("64 by two", Due.of("sb2", new long[64]).most(0), 32);
        Due.is("COSTS of 64 by two", Due.of("sb2", new long[64]).most(1), 32 * 15);
        Due.is("as RAW", Due.of("sb2", new long[64]).most(2), 32 * 19);
    }

    private static void mostOfBits() {
        Due.sentence("Promise 35", "FINITE VALUES (5), MISSING ones (6: not FINITE, some of bits 13 to 64 is 1), PATTERNS of these (7), "
            + "VALUES that are 0 with a first bit of 1 (8)");
        GuisePack x = Due.of("s", 0, MINUS, MINUS, INFINITE, INFINITE | MINUS, MISSING, MISSING, MISSING | MINUS, INFINITE + 1,
            INFINITE | MINUS | 1, -1L, 0x7fefffffffffffffL, 1, MINUS | 1, INFINITE + (1L << 51), INFINITE - 1);
        Due.is("FINITE ones", x.most(5), 7);
        Due.is("MISSING ones", x.most(6), 7);
        Due.is("their PATTERNS", x.most(7), 5);
        Due.is("-0", x.most(8), 2);
        for (int k = 0; k < 52; k++) {
            GuisePack y = Due.of("s", INFINITE | 1L << k, INFINITE | MINUS | 1L << k, INFINITE, 1L << k);
            Due.is("bit " + (64 - k) + " alone", y.most(6), 2);
            Due.is("both are unlike", y.most(7), 2);
            Due.is("FINITE one", y.most(5), 1);
        }
        Due.is("-0 at the first place", Due.told("-0;0;1").most(8), 1);
        Due.is("-0 at the last place", Due.told("0;1;-0").most(8), 1);
        Due.is("-0 alone", Due.told("-0").most(8), 1);
        Due.is("what is near to -0", Due.of("s", MINUS | 1, 0, 1, MINUS | 1L << 62).most(8), 0);
        Due.is("infinite ones are not MISSING", Due.told("i;-i").most(6), 0);
        Due.is("64 MISSING ones", Due.of("s", java.util.stream.LongStream.range(0, 64).map(k -> MISSING + k).toArray()).most(7), 64);
        Due.sentence("Promise 35", "unlike PARTS by HIGH (10)");
        GuisePack y = Due.of("sb2l4", 0x1000000000000000L, 0x2fffffffffffffffL, 0x1000000000000001L, 0x2000000000000000L, -1L);
        Due.is("over all BLOCKS", y.most(10), 3);
        y.set(3, 16);
        Due.is("by 16", y.most(10), 4);
        Due.is("none", Due.told("s").most(10), 0);
        Due.is("64 unlike ones", Due.of("sl16", java.util.stream.LongStream.range(0, 64).map(k -> k << 48).toArray()).most(10), 64);
    }

    private static void mostOfForms() {
        Due.sentence("Promise 35", "EXCEPTIONS of all BLOCKS in their FORMS (9), BLOCKS of FORM 0, 1, 2 (11, 12, 13)");
        for (String text : COLUMNS) {
            GuisePack x = Due.told(text);
            int exceptions = 0;
            int[] forms = new int[3];
            for (int k = 0; k < x.most(0); k++) {
                exceptions += Integer.bitCount(x.block(k, 5));
                forms[x.block(k, 1)]++;
            }
            Due.is("most(9) of " + text, x.most(9), exceptions);
            for (int form = 0; form < 3; form++) {
                Due.is("most(" + (11 + form) + ") of " + text, x.most(11 + form), forms[form]);
            }
        }
        GuisePack all = Due.told("sb4l16;1;2;3;4;x123456789abcdef0;n;i;x4444555566667777;"
            + "x4011223344556677;x4011123456789abc;x4011fedcba987654;x40117777777777aa;9;9;9;9");
        Due.is("RAW ones", all.most(11), 1);
        Due.is("DECIMAL ones", all.most(12), 2);
        Due.is("SPLIT ones", all.most(13), 1);
        Due.is("EXCEPTIONS: none", all.most(9), 0);
        GuisePack some = Due.told("1;n;2;i;3;4;5;6;n;7;7;7;7;7;7;-0");
        Due.is("EXCEPTIONS of two BLOCKS", some.most(9), 4);
        GuisePack split = Due.told("sb8l16d1;x4011223344556677;x4011123456789abc;x4011fedcba987654;x40117777777777aa;"
            + "x4011fedcba987655;x4011123456789abd;x5555123456789abd;x4011123456789abf");
        Due.is("EXCEPTIONS of a SPLIT one", split.most(9), 1);
    }

    private static void mostRefused() {
        Due.sentence("Promise 35", "HIDDEN: no COLUMN, no such what.");
        int[] whats = {-1, 14, 15, Integer.MAX_VALUE, Integer.MIN_VALUE};
        GuisePack x = Due.told("1;2");
        for (int what : whats) {
            Due.is("most(" + what + ")", x.most(what), HIDDEN);
            Due.is("most(" + what + ") without VALUES", Due.told("s").most(what), HIDDEN);
            Due.is("most(" + what + ") of a new object", new GuisePack().most(what), HIDDEN);
        }
        for (int what = 0; what <= 13; what++) {
            Due.is("most(" + what + ") of a new object", new GuisePack().most(what), HIDDEN);
            Due.is("most(" + what + ") without VALUES", Due.told("s").most(what), 0);
            Due.is("most(" + what + ") is told", x.most(what) >= 0, true);
        }
    }

    private static void asItIsNow() {
        Due.sentence("Paragraph 3", "(Apart, from as it is now.)");
        GuisePack x = Due.told("sb4;1.5;2.5;3.5;4.5");
        Due.is("PLACES", x.about(0, 1), 1);
        Due.is("COSTS", x.most(1), 15 + 3);
        x.put(0, Due.bits(1.25));
        Due.is("PLACES behind PUT", x.about(0, 1), 2);
        Due.is("PAIR behind PUT", x.block(0, 2), 32);
        x.swap(0, 3);
        Due.is("PLACES behind CHANGED", x.about(0, 1), 1);
        Due.is("PLACES of the other", x.about(3, 1), 2);
        x.set(2, 1);
        Due.is("PLACES behind a RULE", x.about(3, 1), NONE);
        Due.is("PAIR behind a RULE", x.block(0, 2), 16);
        x.undo();
        Due.is("PLACES behind undo", x.about(3, 1), 2);
        x.add(Due.bits(1e-9));
        Due.is("BLOCKS behind one more", x.most(0), 2);
        Due.is("its PLACES", x.about(4, 1), 9);
        x.drop();
        x.add(MISSING);
        Due.is("PLACES of another one there", x.about(4, 1), NONE);
        x.image();
        x.put(4, Due.bits(5));
        Due.is("PLACES of a whole number", x.about(4, 1), 0);
        x.back();
        Due.is("PLACES behind BACK", x.about(4, 1), NONE);
        Due.bytes(x, Due.checked(Due.joined(Due.row(0, 1), Due.eight(Due.bits(0.001)))));
        x.take();
        Due.is("PLACES of one TAKEN", x.about(5, 1), 3);
        Due.sign(x, "1000;2000");
        x.text();
        Due.is("PLACES of another COLUMN", x.about(0, 1), 0);
        Due.is("SUM of another COLUMN", x.sum(0), Due.bits(3000));
        Due.is("most(0) of another COLUMN", x.most(0), 1);
        long[] all = bits(1000, 2000);
        Due.values("VALUES of another COLUMN", x, all);
    }
}
