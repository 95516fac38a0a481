import java.util.ArrayList;
import java.util.List;

/** The sentences on BLOCKS of a COLUMN, what FITS and what it costs, each by itself: paragraph 2, promises 8 to 17. */
public final class PlanSentencesTest {
    private static final int NONE = GuisePack.NONE;
    private static final int HIDDEN = GuisePack.HIDDEN;
    private static final long MINUS = Long.MIN_VALUE;
    private static final long MISSING = 0x7ff8000000000000L;
    private static final long BOUND = 2251799813685248L;
    // FITS by 6, 2 with an R of 2 to the 51, as X is a little less than that.
    private static final long EDGE = 0x424a36e2eb1c432cL;
    // FIT by none, and have like first bits.
    private static final long[] ODD = {0x4011223344556677L, 0x40111f3456789abdL, 0x401121dcba987653L, 0x4011207777777ab1L};

    public static void main(String[] args) {
        blocksOneBehindAnother();
        finiteOnes();
        boundsOfX();
        greatestR();
        halvesToTheEvenOne();
        fromTheLeftOn();
        othersFitByNone();
        pairsUpTo14();
        leastR();
        widths();
        greatestWidth();
        greatestAndUsualR();
        bitsOfDecimal();
        partsByHigh();
        mostCommonParts();
        partsTheDictionaryTells();
        codesAndLowBits();
        costsOfRaw();
        costsOfDecimal();
        costsOfSplit();
        samplePlaces();
        sampleAsIfAll();
        scoreOfAllBlocks();
        fiveWithTheLeastScore();
        fewerThanFive();
        pairOfTheFive();
        pairBySampleAlone();
        formsOfLikeCost();
        exceptionsByPlace();
        firstLikePlace();
        writtenTillAColumn();
        octetBounds();
        Due.finish();
    }

    private static long[] like(int n, long bits) {
        long[] all = new long[n];
        java.util.Arrays.fill(all, bits);
        return all;
    }

    // ---- BLOCKS ----

    private static void blocksOneBehindAnother() {
        Due.sentence("Paragraph 2", "BLOCK k is the k-th of as many as BLOCK tells, one behind another (the last one may be shorter).");
        for (int each = 2; each <= 16; each++) {
            for (int size = 0; size <= 64; size += size < 34 ? 1 : 15) {
                GuisePack x = Due.of("sb" + each, like(size, 0));
                int blocks = (size + each - 1) / each;
                String what = size + " by " + each;
                Due.is(what + ": most(0)", x.most(0), blocks);
                for (int k = 0; k < blocks; k++) {
                    Due.is(what + ": block(" + k + ", 0)", x.block(k, 0), Math.min(each, size - k * each));
                }
                Due.is(what + ": block of no such one", x.block(blocks, 0), HIDDEN);
                for (int i = 0; i < size; i++) {
                    Due.is(what + ": about(" + i + ", 3)", x.about(i, 3), i / each);
                }
                Due.is(what + ": about of no such place", x.about(size, 3), HIDDEN);
            }
        }
        GuisePack x = Due.of("sb2", like(64, 0));
        Due.is("the last of 32 BLOCKS", x.block(31, 0), 2);
        Due.is("a 33rd BLOCK", x.block(32, 0), HIDDEN);
    }

    private static void finiteOnes() {
        Due.sentence("Paragraph 2", "A VALUE is FINITE, if its bits 2 to 12 are not all 1.");
        long[] finite = {0, MINUS, 1, -1L >>> 12, 0x7fefffffffffffffL, 0xffefffffffffffffL, 0x7fe0000000000000L,
            0x3ff0000000000000L, 0x3fffffffffffffffL, 0x0010000000000000L, 0xbff8000000000000L, 0x7bffffffffffffffL};
        long[] others = {0x7ff0000000000000L, 0xfff0000000000000L, 0x7ff0000000000001L, 0xfff0000000000001L, MISSING, -1L,
            0x7fffffffffffffffL, 0x7ff8000000000001L};
        for (long bits : finite) {
            Due.is("about(0, 0) of " + Long.toHexString(bits), Due.of("s", bits).about(0, 0), 1);
        }
        for (long bits : others) {
            Due.is("about(0, 0) of " + Long.toHexString(bits), Due.of("s", bits).about(0, 0), 0);
        }
        for (int k = 52; k <= 62; k++) {
            Due.is("without bit " + (64 - k), Due.of("s", -1L ^ 1L << k).about(0, 0), 1);
        }
    }

    // ---- what FITS ----

    private static void fits(long bits, int e, int f, long due) {
        GuisePack x = Due.of("s", bits);
        Due.is("guise(0, " + e + ", " + f + ") of " + Long.toHexString(bits), x.guise(0, e, f), due);
        Due.is("cost(0, " + e + ", " + f + ") of " + Long.toHexString(bits), x.cost(0, e, f), due == HIDDEN ? 24 : 15);
    }

    private static void boundsOfX() {
        Due.sentence("Paragraph 2", "unless X is above -2251799813685248 and below 2251799813685248, it does not FIT");
        fits(Due.bits(BOUND), 0, 0, HIDDEN);
        fits(Due.bits(-BOUND), 0, 0, HIDDEN);
        fits(Due.bits(BOUND - 1), 0, 0, BOUND - 1);
        fits(Due.bits(1 - BOUND), 0, 0, 1 - BOUND);
        fits(Due.bits(BOUND + 1), 0, 0, HIDDEN);
        fits(Due.bits(-BOUND - 1), 0, 0, HIDDEN);
        fits(Due.bits(BOUND * 2), 0, 0, HIDDEN);
        fits(Due.bits(225179981368524L), 1, 0, 2251799813685240L);
        fits(Due.bits(225179981368525L), 1, 0, HIDDEN);
        fits(Due.bits(-225179981368524L), 1, 0, -2251799813685240L);
        fits(Due.bits(-225179981368525L), 1, 0, HIDDEN);
        fits(Due.bits(22), 14, 0, 2200000000000000L);
        fits(Due.bits(23), 14, 0, HIDDEN);
        fits(Due.bits(-22), 14, 0, -2200000000000000L);
        fits(Due.bits(-23), 14, 0, HIDDEN);
        fits(Due.bits(22), 14, 14, 22);
        // X beyond all numbers is above any bound, too.
        fits(0x7fefffffffffffffL, 14, 14, HIDDEN);
        fits(0xffefffffffffffffL, 14, 14, HIDDEN);
        fits(Due.bits(1e300), 14, 14, HIDDEN);
        fits(Due.bits(1e300), 0, 0, HIDDEN);
    }

    private static void greatestR() {
        Due.sentence("Paragraph 2", "R: X and 6755399441055744, then less 6755399441055744, as a whole number");
        // X below its bound by a part of 1: R may be the bound itself.
        fits(EDGE, 6, 2, BOUND);
        fits(EDGE | MINUS, 6, 2, -BOUND);
        fits(0x431fffffffffffffL, 11, 11, BOUND);
        fits(0xc31fffffffffffffL, 11, 11, -BOUND);
        fits(0x40d5fd7fe1796495L, 11, 0, BOUND);
        fits(0x431fffffffffffffL, 0, 0, HIDDEN);
        fits(0x431ffffffffffffeL, 0, 0, HIDDEN);
        fits(0x431ffffffffffffcL, 0, 0, BOUND - 1);
        // X of less than a half: R is 0, and R times TEN of f is no such VALUE.
        fits(1, 14, 0, HIDDEN);
        fits(MINUS | 1, 14, 0, HIDDEN);
        fits(Due.bits(1e-15), 14, 0, HIDDEN);
        fits(Due.bits(1e-14), 14, 0, 1);
        fits(Due.bits(-1e-14), 14, 0, -1);
    }

    private static void halvesToTheEvenOne() {
        Due.sentence("Paragraph 2", "R: X and 6755399441055744, then less 6755399441055744 (halves go to the even one)");
        fits(0x431aedd8447d6427L, 6, 6, 1894965628066058L);
        fits(0x4319c9d167bc0669L, 3, 3, 1814693910872474L);
        fits(0x4171c959f9633e68L, 14, 6, 1865052758672944L);
        fits(0x431f126ed5872a39L, 2, 2, 2186497879034510L);
        fits(0x42e40e5c8badcc14L, 10, 9, 1764153180442566L);
        fits(0xc2e40e5c8badcc14L, 10, 9, -1764153180442566L);
        fits(0xc31aedd8447d6427L, 6, 6, -1894965628066058L);
        fits(Due.bits(0.5), 0, 0, HIDDEN);
        fits(Due.bits(1.5), 0, 0, HIDDEN);
        fits(Due.bits(-2.5), 0, 0, HIDDEN);
    }

    private static void fromTheLeftOn() {
        Due.sentence("Paragraph 2", "it FITS, if R times TEN of f times TENTH of e has the bits of v (all in double precision, from the left on)");
        fits(Due.bits(0.3), 2, 1, 3);
        fits(Due.bits(0.6), 2, 1, 6);
        fits(Due.bits(1.7), 2, 1, 17);
        fits(Due.bits(4.8), 2, 1, 48);
        fits(Due.bits(0.3), 1, 0, HIDDEN);
        fits(0x3fd3333333333334L, 1, 0, 3);
        fits(0x3fd3333333333334L, 2, 1, HIDDEN);
        fits(Due.bits(1.5), 1, 0, 15);
        fits(Due.bits(1.5), 1, 1, HIDDEN);
        fits(Due.bits(1.5), 2, 1, 15);
        fits(Due.bits(1.5), 2, 0, 150);
        fits(Due.bits(-1.5), 2, 0, -150);
        fits(Due.bits(1000), 3, 3, 1000);
        fits(Due.bits(0x1.8p0) + 1, 1, 0, HIDDEN);
        fits(Due.bits(0x1.8p0) - 1, 1, 0, HIDDEN);
        // 0 is told by its bits, -0 has others.
        fits(0, 0, 0, 0);
        fits(0, 14, 14, 0);
        fits(MINUS, 0, 0, HIDDEN);
        fits(MINUS, 14, 14, HIDDEN);
    }

    private static void othersFitByNone() {
        Due.sentence("Paragraph 2", "Others FIT by none.");
        long[] others = {0x7ff0000000000000L, 0xfff0000000000000L, MISSING, MISSING | MINUS, -1L, 0x7ff0000000000001L};
        for (long bits : others) {
            GuisePack x = Due.of("se14", bits);
            for (int e = 0; e <= 14; e++) {
                Due.is("guise by " + e + ", 0", x.guise(0, e, 0), HIDDEN);
                Due.is("guise by " + e + ", " + e, x.guise(0, e, e), HIDDEN);
            }
            Due.is("WAYS", x.about(0, 2), 0);
            Due.is("PLACES", x.about(0, 1), NONE);
        }
    }

    private static void pairsUpTo14() {
        Due.sentence("Promises 9 to 11", "by a PAIR (0 .. 14), f 0 .. e, whatever TOP tells");
        GuisePack x = Due.told("se0;0");
        for (int e = -2; e <= 17; e++) {
            for (int f = -2; f <= 17; f++) {
                boolean pair = e >= 0 && e <= 14 && f >= 0 && f <= e;
                Due.is("guise(0, " + e + ", " + f + ")", x.guise(0, e, f), pair ? 0 : HIDDEN);
            }
        }
        GuisePack y = Due.told("se0;n");
        for (int e = -2; e <= 17; e++) {
            for (int f = -2; f <= 17; f++) {
                boolean pair = e >= 0 && e <= 14 && f >= 0 && f <= e;
                Due.is("cost(0, " + e + ", " + f + ")", y.cost(0, e, f), pair ? 24 : NONE);
            }
        }
        for (int e = -2; e <= 17; e++) {
            GuisePack z = Due.told("se0;n");
            for (int f = -2; f <= 17; f++) {
                boolean pair = e >= 0 && e <= 14 && f >= 0 && f <= e;
                Due.is("score(" + e + ", " + f + ")", z.score(e, f), pair ? 24 : NONE);
            }
        }
        Due.is("score of great numbers", y.score(Integer.MAX_VALUE, Integer.MAX_VALUE), NONE);
        Due.is("score of small numbers", y.score(Integer.MIN_VALUE, Integer.MIN_VALUE), NONE);
        Due.is("score without VALUES", Due.told("s").score(14, 14), 0);
        Due.is("score of no PAIR without VALUES", Due.told("s").score(15, 0), NONE);
    }

    // ---- DECIMAL ----

    private static void leastR() {
        Due.sentence("Paragraph 2", "BASE is the least R (0, if none FITS)");
        Due.is("all above 0", Due.told("7;5;9").whole(0, 0), 5);
        Due.is("all below 0", Due.told("-7;-5;-9").whole(0, 0), -9);
        Due.is("about 0", Due.told("7;0;-9").whole(0, 0), -9);
        Due.is("the first", Due.told("3;8;9").whole(0, 0), 3);
        Due.is("the last", Due.told("9;8;3").whole(0, 0), 3);
        Due.is("one alone", Due.told("12.25").whole(0, 0), 1225);
        Due.is("EXCEPTIONS don't count", Due.told("n;12;13;i;-0;14;15;16").whole(0, 0), 12);
        Due.is("none FITS", Due.told("n;i;-0").whole(0, 0), 0);
        Due.is("none FITS, greatest", Due.told("n;i;-0").whole(0, 1), 0);
        Due.is("none FITS, of most", Due.told("n;i;-0").whole(0, 2), 0);
        Due.is("none FITS, WIDTH", Due.told("n;i;-0").block(0, 6), 0);
        Due.is("none FITS, COST", Due.told("n;i;-0").cost(0, 3, 2), 15 + 27);
    }

    private static void widths() {
        Due.sentence("Paragraph 2", "WIDTH how many bits the greatest R less BASE has (0: none)");
        for (int k = 0; k <= 50; k++) {
            long power = 1L << k;
            GuisePack x = Due.of("se0", Due.bits(-3), Due.bits(power - 3));
            Due.is("WIDTH of 2 to the " + k, x.block(0, 6), k + 1);
            Due.is("its COST", x.cost(0, 0, 0), 15 + (2 * (k + 1) + 7) / 8);
            GuisePack y = Due.of("se0", Due.bits(power - 1), Due.bits(0));
            Due.is("WIDTH of 2 to the " + k + " less 1", y.block(0, 6), k);
            Due.is("its COST", y.cost(0, 0, 0), 15 + (2 * k + 7) / 8);
        }
        Due.is("WIDTH of one", Due.told("77").block(0, 6), 0);
        Due.is("WIDTH of like ones", Due.told("77;77;77").block(0, 6), 0);
        Due.is("WIDTH beside EXCEPTIONS", Due.told("77;n;77").block(0, 6), 0);
    }

    private static void greatestWidth() {
        Due.sentence("Paragraph 2", "WIDTH (53 at most): R from -2 to the 51 to 2 to the 51");
        Due.is("the greatest without rounding", Due.of("se0", Due.bits(BOUND - 1), Due.bits(1 - BOUND)).block(0, 6), 52);
        long[] edges = new long[16];
        for (int i = 0; i < 16; i++) {
            edges[i] = i % 2 == 0 ? EDGE : EDGE | MINUS;
        }
        GuisePack x = Due.of("sb16m16e14l4", edges);
        Due.is("cost(0, 6, 2)", x.cost(0, 6, 2), 15 + 106);
        Due.is("FORM", x.block(0, 1), 1);
        Due.is("PAIR", x.block(0, 2), 98);
        Due.is("WIDTH", x.block(0, 6), 53);
        Due.is("BASE", x.whole(0, 0), -BOUND);
        Due.is("greatest R", x.whole(0, 1), BOUND);
        int[] bytes = Due.written(x, 0);
        Due.is("how many bytes", bytes.length, 121);
        Due.is("WIDTH as written", bytes.length > 13 ? bytes[13] : NONE, 53);
        GuisePack y = Due.told("s");
        Due.bytes(y, bytes);
        Due.is("FAULT of what was written", y.fault(1), NONE);
        Due.is("take", y.take(), 16);
        Due.values("there and back", y, edges);
    }

    private static void greatestAndUsualR() {
        Due.sentence("Promise 14", "1 the greatest R (BASE, if none FITS), 2 the R of most VALUES that FIT (of several the least; BASE, if none FITS)");
        GuisePack x = Due.told("sb16;5;3;9;3;9;4;n;n;n");
        Due.is("BASE", x.whole(0, 0), 3);
        Due.is("greatest R", x.whole(0, 1), 9);
        Due.is("of several the least", x.whole(0, 2), 3);
        Due.is("the least comes later", Due.told("9;9;3;3;4").whole(0, 2), 3);
        Due.is("the least comes first", Due.told("3;3;9;9;4").whole(0, 2), 3);
        Due.is("not the least of all", Due.told("1;5;5;9;9").whole(0, 2), 5);
        Due.is("the greatest is most common", Due.told("1;2;9;9").whole(0, 2), 9);
        Due.is("the last makes it so", Due.told("9;1;9;1;9").whole(0, 2), 9);
        Due.is("all unlike", Due.told("7;6;5").whole(0, 2), 5);
        Due.is("below 0", Due.told("-7;-7;5;5").whole(0, 2), -7);
        Due.is("EXCEPTIONS are more", Due.told("sm1;4;n;n;n;n").whole(0, 2), 4);
        Due.is("one alone", Due.told("4").whole(0, 1), 4);
        // By the BLOCK's own PAIR.
        GuisePack y = Due.told("sb2;1.5;2.5;30;40");
        Due.is("PAIR", y.block(0, 2), 16);
        Due.is("greatest R by 1, 0", y.whole(0, 1), 25);
        Due.is("greatest of the second BLOCK", y.whole(1, 1), y.guise(3, y.block(1, 2) / 16, y.block(1, 2) % 16));
        for (int k = -2; k <= 4; k++) {
            boolean told = k >= 0 && k <= 1;
            Due.is("whole(" + k + ", 0) is told", y.whole(k, 0) != HIDDEN, told);
        }
    }

    private static void bitsOfDecimal() {
        Due.sentence("Paragraph 2", "bits of a VALUE: R less BASE; of an EXCEPTION 0");
        Due.rows("one WIDTH of 3", Due.written(Due.told("3;n;4;5;6;7;8;10"), 0),
            Due.checked(Due.joined(Due.row(1, 8, 0, 0, 1), Due.eight(3), Due.row(3, 0b00000000, 0b10100111, 0b00101111),
                Due.row(1), Due.eight(MISSING))));
        Due.rows("below 0", Due.written(Due.told("-3;-1;-2;-2"), 0),
            Due.checked(Due.joined(Due.row(1, 4, 0, 0, 0), Due.eight(-3), Due.row(2, 0b00100101))));
        Due.rows("of WIDTH 0", Due.written(Due.told("7;7;7"), 0),
            Due.checked(Due.joined(Due.row(1, 3, 0, 0, 0), Due.eight(7), Due.row(0))));
        Due.rows("of WIDTH 9", Due.written(Due.told("256;0;1"), 0),
            Due.checked(Due.joined(Due.row(1, 3, 0, 0, 0), Due.eight(0), Due.row(9, 0b10000000, 0, 0, 0b00100000))));
        // 0.3, 0.6 and 0.7 FIT by 6, 5 (3 times a tenth isn't 0.3).
        Due.rows("by an odd f", Due.written(Due.told("0.3;0.6;0.7"), 0),
            Due.checked(Due.joined(Due.row(1, 3, 6, 5, 0), Due.eight(3), Due.row(3, 0b00001110, 0))));
        for (int n = 8; n <= 16; n++) {
            for (int width = 1; width <= 17; width++) {
                bitsOfWidth(n, width);
            }
        }
        // Two EXCEPTIONS, the first and the last.
        Due.rows("EXCEPTIONS at both ends", Due.written(Due.told("sb16;i;1;1;1;1;1;1;-0"), 0),
            Due.checked(Due.joined(Due.row(1, 8, 0, 0, 2), Due.eight(1), Due.row(0),
                Due.row(0), Due.eight(0x7ff0000000000000L), Due.row(7), Due.eight(MINUS))));
    }

    /** Two BLOCKS, one behind another: bits of filling are 0, and none are left over. */
    private static void bitsOfWidth(int n, int width) {
        GuisePack x = Due.told("se0l4d1b" + n);
        StringBuilder bits = new StringBuilder();
        for (int i = 0; i < 2 * n; i++) {
            long whole = i % n == 0 ? 0 : i % n == 1 ? (1L << width) - 1 : (i * 7919L) % (1L << width);
            x.add(Due.bits(whole));
            bits.append(bits(whole, width));
        }
        for (int k = 0; k < 2; k++) {
            int[] due = Due.checked(Due.joined(Due.row(1, n, 0, 0, 0), Due.eight(0), Due.row(width),
                packed(bits.substring(k * n * width, (k + 1) * n * width))));
            Due.rows("BLOCK " + k + " of " + n + " by " + width, Due.written(x, k), due);
        }
    }

    // ---- SPLIT ----

    private static void partsByHigh() {
        Due.sentence("Paragraph 2", "As SPLIT: h is HIGH; a PART is the first h bits of a VALUE");
        long bits = 0xf1e2d3c4b5a69788L;
        for (int h = 4; h <= 16; h++) {
            GuisePack x = Due.of("sl" + h, bits, -1L, 0, MINUS);
            Due.is("about(0, 4) by " + h, x.about(0, 4), bits >>> 64 - h);
            Due.is("about(1, 4) by " + h, x.about(1, 4), (1 << h) - 1);
            Due.is("about(2, 4) by " + h, x.about(2, 4), 0);
            Due.is("about(3, 4) by " + h, x.about(3, 4), 1 << h - 1);
            Due.is("part(0, 0) by " + h, x.part(0, 0), bits >>> 64 - h);
            Due.is("most(10) by " + h, x.most(10), h == 4 ? 3 : 4);
        }
        // VALUES that are unlike at the h-th bit alone, and behind it.
        for (int h = 4; h <= 16; h++) {
            GuisePack x = Due.of("sl" + h, 0, 1L << 64 - h, 1L << 63 - h);
            Due.is("PARTS by " + h, x.block(0, 7), 2);
            Due.is("unlike PARTS by " + h, x.most(10), 2);
        }
    }

    private static long part(long first) {
        return first << 60;
    }

    private static void mostCommonParts() {
        Due.sentence("Paragraph 2", "PARTS are those that most VALUES of the BLOCK have (of several those that come first), the most common first");
        GuisePack x = Due.of("sb16l4d8", part(1), part(2), part(3), part(3), part(2) + 1, part(4), part(5), part(3) + 9);
        int[] due = {3, 2, 1, 4, 5};
        for (int j = 0; j < 5; j++) {
            Due.is("part(0, " + j + ")", x.part(0, j), due[j]);
        }
        Due.is("part(0, 5)", x.part(0, 5), NONE);
        Due.is("part(0, -1)", x.part(0, -1), NONE);
        Due.is("how many", x.block(0, 7), 5);
        GuisePack tie = Due.of("sb16l4d1", part(5), part(4), part(4), part(5));
        Due.is("of two like ones the first", tie.part(0, 0), 5);
        Due.is("one alone is told", tie.part(0, 1), NONE);
        GuisePack later = Due.of("sb16l4d2", part(9), part(8), part(7), part(7), part(8), part(9), part(8));
        Due.is("the most common", later.part(0, 0), 8);
        Due.is("then of several the first", later.part(0, 1), 9);
        // Each BLOCK by itself.
        GuisePack two = Due.of("sb2l4d8", part(1), part(2), part(2), part(1));
        Due.is("part(0, 0)", two.part(0, 0), 1);
        Due.is("part(1, 0)", two.part(1, 0), 2);
        Due.is("part(2, 0)", two.part(2, 0), NONE);
    }

    private static void partsTheDictionaryTells() {
        Due.sentence("Paragraph 2", "as many as DICTIONARY tells at most; who has none of them is an EXCEPTION");
        long[] values = new long[16];
        for (int i = 0; i < 16; i++) {
            values[i] = part(i % 9) + i;
        }
        for (int most = 1; most <= 8; most++) {
            GuisePack x = Due.of("sb16l4d" + most, values);
            Due.is("PARTS by " + most, x.block(0, 7), most);
            Due.is("the last one", x.part(0, most - 1), most - 1);
            Due.is("one more", x.part(0, most), NONE);
            int missed = 0;
            for (int i = 0; i < 16; i++) {
                missed += i % 9 >= most ? 1 : 0;
            }
            int[] codeBits = {0, 0, 1, 2, 2, 3, 3, 3, 3};
            Due.is("COST by " + most, x.block(0, 4), 6 + 2 * most + 2 * (codeBits[most] + 60) + 3 * missed);
        }
        // As many PARTS as DICTIONARY tells, one fewer, one more.
        for (int unlike = 3; unlike <= 5; unlike++) {
            long[] some = new long[unlike];
            for (int i = 0; i < unlike; i++) {
                some[i] = part(i + 1);
            }
            GuisePack x = Due.of("sb16l4d4", some);
            Due.is("PARTS of " + unlike, x.block(0, 7), Math.min(unlike, 4));
        }
    }

    private static String bits(long number, int width) {
        StringBuilder bits = new StringBuilder();
        for (int k = width - 1; k >= 0; k--) {
            bits.append((number >>> k & 1) == 1 ? '1' : '0');
        }
        return bits.toString();
    }

    private static int[] packed(String bits) {
        String all = bits + Due.times((8 - bits.length() % 8) % 8, "0");
        int[] bytes = new int[all.length() / 8];
        for (int i = 0; i < bytes.length; i++) {
            bytes[i] = Integer.parseInt(all.substring(8 * i, 8 * i + 8), 2);
        }
        return bytes;
    }

    private static void codesAndLowBits() {
        Due.sentence("Paragraph 2", "CODE: which of them (0 on), LOW: the other bits; who has none of them is an EXCEPTION, its CODE 0");
        long[] values = {0x4011223344556677L, 0x5011123456789abdL, 0x4011fedcba987653L, 0x5011777777777ab1L,
            0x6011000000000001L, 0x4011800000000001L, 0x7011000000000003L, 0x4011100000000007L};
        GuisePack x = Due.of("sl16d2", values);
        StringBuilder bits = new StringBuilder();
        int[] codes = {0, 1, 0, 1, 0, 0, 0, 0};
        for (int i = 0; i < 8; i++) {
            bits.append(codes[i]).append(bits(values[i], 48));
        }
        Due.is("FORM", x.block(0, 1), 2);
        Due.is("EXCEPTIONS", x.block(0, 5), 1 << 4 | 1 << 6);
        Due.rows("two PARTS", Due.written(x, 0), Due.checked(Due.joined(Due.row(2, 8, 16, 2, 0x40, 0x11, 0x50, 0x11, 2),
            packed(bits.toString()), Due.row(4, 0x60, 0x11, 6, 0x70, 0x11))));
        GuisePack one = Due.of("sl16d1", ODD);
        bits = new StringBuilder();
        for (long value : ODD) {
            bits.append(bits(value, 48));
        }
        Due.rows("one PART", Due.written(one, 0), Due.checked(Due.joined(Due.row(2, 4, 16, 1, 0x40, 0x11, 0), packed(bits.toString()))));
        // Three PARTS: two bits of CODE, nine VALUES of 53 bits each, three bits of filling.
        GuisePack three = Due.of("sb16l13d3", ODD[0], ODD[1], ODD[2], ODD[3], ODD[0] | MINUS, ODD[1] | MINUS,
            ODD[2] + (1L << 60), ODD[3] | MINUS, ODD[0] + 5);
        bits = new StringBuilder();
        int[] which = {0, 0, 0, 0, 1, 1, 2, 1, 0};
        for (int i = 0; i < 9; i++) {
            bits.append(bits(which[i], 2)).append(bits(three.value(i), 51));
        }
        Due.is("FORM of three", three.block(0, 1), 2);
        Due.rows("three PARTS", Due.written(three, 0), Due.checked(Due.joined(Due.row(2, 9, 13, 3, 0x08, 0x02, 0x18, 0x02, 0x0a, 0x02, 0),
            packed(bits.toString()))));
    }

    // ---- COSTS ----

    private static void costsOfRaw() {
        Due.sentence("Paragraph 2", "COST: how many bytes a BLOCK has in a FORM (RAW)");
        for (int n = 1; n <= 16; n++) {
            long[] values = new long[n];
            for (int i = 0; i < n; i++) {
                values[i] = (i * 0x1111111111111111L >>> 1) + 0x0100000000000001L;
            }
            GuisePack x = Due.of("sb16d1l4", values);
            Due.is("most(2) of " + n, x.most(2), 3 + 8 * n);
            if (x.block(0, 1) == 0) {
                Due.is("COST of " + n, x.block(0, 3), 3 + 8 * n);
                Due.is("bytes of " + n, x.write(0), 3 + 8 * n);
            }
        }
        Due.is("RAW", Due.of("s", MISSING).block(0, 1), 0);
        Due.is("COST of one", Due.of("s", MISSING).block(0, 3), 11);
    }

    private static void costsOfDecimal() {
        Due.sentence("Paragraph 2", "COST: how many bytes a BLOCK has in a FORM (DECIMAL)");
        for (int n = 1; n <= 16; n++) {
            for (int width = 1; width <= 20; width++) {
                long[] values = like(n, 0);
                values[n - 1] = Due.bits((1L << width) - 1);
                GuisePack x = Due.of("sb16", values);
                int bytes = n == 1 ? 0 : (n * width + 7) / 8;
                Due.is("cost of " + n + " by " + width + " bits", x.cost(0, 0, 0), 15 + bytes);
            }
        }
        for (int n = 1; n <= 16; n++) {
            for (int many = 0; many <= n; many++) {
                long[] values = like(n, Due.bits(5));
                java.util.Arrays.fill(values, 0, many, MISSING);
                Due.is("cost of " + n + " with EXCEPTIONS", Due.of("sb16", values).cost(0, 0, 0), 15 + 9 * many);
            }
        }
        // EXCEPTIONS have bits as well.
        Due.is("8 VALUES of a bit, 7 EXCEPTIONS", Due.told("0;n;n;n;n;n;n;1").cost(0, 0, 0), 15 + 1 + 54);
        Due.is("9 VALUES of a bit", Due.told("sb16;0;n;n;n;n;n;n;n;1").cost(0, 0, 0), 15 + 2 + 63);
    }

    private static void costsOfSplit() {
        Due.sentence("Paragraph 2", "COST: how many bytes a BLOCK has in a FORM (SPLIT)");
        int[] codeBits = {0, 0, 1, 2, 2, 3, 3, 3, 3};
        for (int h = 4; h <= 16; h++) {
            for (int n = 1; n <= 16; n += 3) {
                for (int unlike = 1; unlike <= Math.min(n, 8); unlike++) {
                    long[] values = new long[n];
                    for (int i = 0; i < n; i++) {
                        values[i] = (long) (i % unlike) << 64 - h;
                    }
                    int bits = n * (codeBits[unlike] + 64 - h);
                    GuisePack x = Due.of("sb16d8l" + h, values);
                    Due.is("block(0, 4) of " + n + " by " + h + " with " + unlike, x.block(0, 4), 6 + 2 * unlike + (bits + 7) / 8);
                }
            }
        }
    }

    // ---- SAMPLE, SCORE, the FIVE ----

    private static void samplePlaces() {
        Due.sentence("Paragraph 2",
            "SAMPLE of a BLOCK: the VALUES at the places i times how many it has by q, cut (i 0 .. q less 1); q as many as SAMPLE tells at most");
        for (int n = 1; n <= 16; n++) {
            for (int most = 1; most <= 16; most++) {
                int q = Math.min(n, most);
                boolean[] sampled = new boolean[n];
                for (int i = 0; i < q; i++) {
                    sampled[i * n / q] = true;
                }
                GuisePack x = Due.of("sb16m" + most, like(n, 0));
                for (int place = 0; place < n; place++) {
                    x.put(place, MISSING);
                    Due.is("place " + place + " of " + n + " by " + most, x.score(0, 0), sampled[place] ? 24 : 15);
                    x.put(place, 0);
                }
            }
        }
        // By hand: of 8 by 3 the places 0, 2, 5; of 7 by 4 the places 0, 1, 3, 5.
        Due.is("of 8 by 3", Due.told("sm3;1;n;1;n;n;1;n;n").score(0, 0), 15);
        Due.is("of 7 by 4", Due.told("sm4;1;1;n;1;n;1;n").score(0, 0), 15);
        Due.is("of 7 by 4, none of these", Due.told("sm4;n;n;1;n;1;n;1").score(0, 0), 15 + 36);
        // The last BLOCK's places count from its own first one, by its own length.
        Due.is("of a shorter last BLOCK", Due.told("sb4m2;1;n;1;n;1;1;n").score(0, 0), 30);
        Due.is("of a shorter last BLOCK, otherwise", Due.told("sb4m2;1;n;1;n;1;n;1").score(0, 0), 30 + 9);
    }

    private static void sampleAsIfAll() {
        Due.sentence("Paragraph 2", "COST as DECIMAL by it of the SAMPLE of each BLOCK (as if these were all)");
        GuisePack x = Due.told("sb4m2;1;1000;1;1000");
        Due.is("WIDTH of the SAMPLE alone", x.score(0, 0), 15);
        Due.is("COST of all", x.cost(0, 0, 0), 15 + 5);
        Due.is("BASE of the SAMPLE alone", Due.told("sb4m2;100;0;107;0").score(0, 0), 15 + 1);
        Due.is("bits of the SAMPLE alone", Due.told("sb16m2;0;0;0;0;0;0;0;0;15").score(0, 0), 15);
        Due.is("EXCEPTIONS of the SAMPLE alone", Due.told("sb4m2;1;n;n;n").score(0, 0), 15 + 9);
        Due.is("none FITS", Due.told("sb4m2;n;1;n;1").score(0, 0), 15 + 18);
    }

    private static void scoreOfAllBlocks() {
        Due.sentence("Paragraph 2", "SCORE of a PAIR: COST .. of each BLOCK, added up");
        Due.is("without VALUES", Due.told("s").score(0, 0), 0);
        for (int size = 1; size <= 64; size += 7) {
            Due.is("of " + size, Due.of("sb4", like(size, 0)).score(3, 2), 15 * ((size + 3) / 4));
        }
        GuisePack x = Due.told("sb2m16;1;2;n;3;0.5;7;i");
        Due.is("score(0, 0)", x.score(0, 0), 16 + 24 + 24 + 24);
        Due.is("score(1, 0)", x.score(1, 0), 16 + 24 + 17 + 24);
    }

    /** All PAIRS up to TOP by SCORE, ties as they come. */
    private static List<Integer> ranked(GuisePack x, int top) {
        List<Integer> pairs = new ArrayList<>();
        List<Integer> scores = new ArrayList<>();
        for (int e = 0; e <= top; e++) {
            for (int f = 0; f <= e; f++) {
                int score = x.score(e, f);
                int at = scores.size();
                while (at > 0 && scores.get(at - 1) > score) {
                    at--;
                }
                scores.add(at, score);
                pairs.add(at, 16 * e + f);
            }
        }
        return pairs;
    }

    private static void fiveWithTheLeastScore() {
        Due.sentence("Paragraph 2",
            "The FIVE: of all PAIRS (e 0 .. TOP) the five with the least SCORE (of several the lesser e, then the lesser f), in this order");
        String[] texts = {"1.5;2.5;-0.5;7", "0.3;0.6;0.7", "0;0;0", "n;n", "1.25;1.5;2", "1000;2000;3000", "0.1;0.01;0.001;12",
            "sm1;0.5;7;7", "123456789;1", "sb2;0.5;0.25;100;200;0.125;n"};
        for (String text : texts) {
            for (int top = 0; top <= 14; top += top < 4 ? 1 : 5) {
                GuisePack x = Due.told(text);
                x.set(2, top);
                List<Integer> due = ranked(x, top);
                for (int i = 0; i < 5; i++) {
                    Due.is("five(" + i + ") of " + text + " up to " + top, x.five(i), i < due.size() ? due.get(i) : NONE);
                }
            }
        }
        // By hand: ties by e first, then by f.
        GuisePack zeros = Due.told("0;0;0");
        int[] order = {0, 16, 17, 32, 33};
        for (int i = 0; i < 5; i++) {
            Due.is("five(" + i + ") of zeros", zeros.five(i), order[i]);
        }
        // The lesser SCORE goes ahead of the lesser e: 0.01 and 0.03 by 2, 0 (2 bits), not by 0, 0.
        GuisePack small = Due.told("0.01;0.03");
        Due.is("five(0) of two places", small.five(0), 32);
        Due.is("e may be TOP", Due.told("se1;0.5").five(0), 16);
        Due.is("e may not be above TOP", Due.told("se0;0.5").five(0), 0);
    }

    private static void fewerThanFive() {
        Due.sentence("Paragraph 2", "(fewer, if there are fewer)");
        int[] pairs = {1, 3, 5, 5, 5};
        for (int top = 0; top <= 4; top++) {
            GuisePack x = Due.told("se" + top + ";1;2");
            for (int i = 0; i <= 6; i++) {
                Due.is("five(" + i + ") up to " + top + " is told", x.five(i) != NONE, i < pairs[top]);
            }
        }
        Due.sentence("Promise 12", "The i-th of the FIVE, 16 times e and f. NONE: no such one, no VALUES.");
        GuisePack x = Due.told("se14;1;2");
        int[] none = {-1, 5, 6, Integer.MAX_VALUE, Integer.MIN_VALUE};
        for (int i : none) {
            Due.is("five(" + i + ")", x.five(i), NONE);
        }
        Due.is("five(0) without VALUES", Due.told("s").five(0), NONE);
        Due.is("five(0) without COLUMN", new GuisePack().five(0), NONE);
        Due.is("14, 0 as 16 times e and f", Due.told("se14;0.00000001;x3d06849b86a12b9b").guise(1, 14, 0), 1);
        GuisePack tiny = Due.of("se14", Due.bits(1e-14), Due.bits(3e-14));
        Due.is("five(0) of 14, 0", tiny.five(0), 224);
        x.drop();
        Due.is("five(0) of one", x.five(0), 0);
        x.drop();
        Due.is("five(0) of none", x.five(0), NONE);
    }

    private static void pairOfTheFive() {
        Due.sentence("Paragraph 2", "The PAIR of a BLOCK: that of the FIVE with the least COST of its SAMPLE (of several the one ahead).");
        // All PAIRS cost the zeros of the second BLOCK alike: the one ahead of the FIVE is 2, 0.
        GuisePack x = Due.told("sb2;1.25;0.75;0;0");
        Due.is("five(0)", x.five(0), 32);
        Due.is("PAIR of the first", x.block(0, 2), 32);
        Due.is("PAIR of the second", x.block(1, 2), 32);
        // Each BLOCK has its own one: not the first of the FIVE.
        GuisePack y = Due.told("sb2;100;300;100;300;100;300;0.5;0.75");
        boolean inFive = false;
        for (int i = 0; i < 5; i++) {
            inFive |= y.five(i) == y.block(3, 2);
        }
        Due.is("PAIR among the FIVE", inFive, true);
        for (int k = 0; k < 4; k++) {
            Due.is("PAIR of BLOCK " + k, y.block(k, 2), bestOfFive(y, k));
        }
        // 0, 0 is the first of the FIVE, but 1, 0 costs the last BLOCK less.
        GuisePack own = Due.told("sb4e1;" + Due.times(10, "1;9;") + "0.5;1;2;3");
        Due.is("five(0)", own.five(0), 0);
        Due.is("PAIR of the first BLOCK", own.block(0, 2), 0);
        Due.is("PAIR of the last BLOCK", own.block(5, 2), 16);
        Due.is("COST of the last BLOCK", own.block(5, 3), 18);
        Due.is("COST by the first of the FIVE", own.cost(5, 0, 0), 25);
        // A PAIR that costs less but is none of the FIVE isn't taken.
        GuisePack z = Due.told("sb2;" + Due.times(7, "1;9;") + "0.0625;0.1875");
        for (int i = 0; i < 5; i++) {
            Due.is("five(" + i + ") is another one", z.five(i) != 64, true);
        }
        Due.is("cost(7, 4, 0)", z.cost(7, 4, 0), 18);
        Due.is("its PAIR", z.block(7, 2), z.five(0));
        Due.is("its FORM", z.block(7, 1), 0);
        Due.is("its COST", z.block(7, 3), 19);
        // The one ahead by SCORE, not by e.
        GuisePack w = Due.told("sb2m1;0.5;0.25;0.5;7;n;n");
        Due.is("PAIR of MISSING ones", w.block(2, 2), w.five(0));
        Due.is("it is 1, 0", w.five(0), 16);
    }

    /** Where SAMPLE is all of a BLOCK. */
    private static int bestOfFive(GuisePack x, int block) {
        int best = x.five(0);
        for (int i = 1; i < 5; i++) {
            int other = x.five(i);
            if (x.cost(block, other / 16, other % 16) < x.cost(block, best / 16, best % 16)) {
                best = other;
            }
        }
        return best;
    }

    private static void pairBySampleAlone() {
        Due.sentence("Paragraph 2", "The PAIR of a BLOCK: .. the least COST of its SAMPLE, not of the BLOCK");
        GuisePack x = Due.told("sb4m1;1;0.5;1.5;2.5");
        Due.is("PAIR by the first VALUE alone", x.block(0, 2), 0);
        Due.is("FORM", x.block(0, 1), 0);
        Due.is("COST by 1, 0", x.cost(0, 1, 0), 15 + 3);
        x.set(1, 2);
        Due.is("PAIR by the places 0 and 2", x.block(0, 2), 16);
        Due.is("FORM then", x.block(0, 1), 1);
        Due.is("WIDTH then", x.block(0, 6), 5);
    }

    private static void formsOfLikeCost() {
        Due.sentence("Paragraph 2", "Its FORM: that of RAW, DECIMAL by its PAIR, SPLIT with the least COST (of several the one told ahead).");
        GuisePack raw = Due.told("0;40000");
        Due.is("COST as DECIMAL is that as RAW", raw.cost(0, raw.block(0, 2) / 16, raw.block(0, 2) % 16), 19);
        Due.is("RAW ahead of DECIMAL", raw.block(0, 1), 0);
        Due.is("its COST", raw.block(0, 3), 19);
        GuisePack less = Due.told("0;4095");
        Due.is("DECIMAL with a byte less", less.block(0, 1), 1);
        Due.is("its COST", less.block(0, 3), 18);
        long far = 1L << 40;
        GuisePack tie = Due.of("sl16", Due.bits(far), Due.bits(far + 1), Due.bits(far + (1L << 32)), Due.bits(far + 3));
        Due.is("COST as DECIMAL", tie.cost(0, 0, 0), 32);
        Due.is("COST as SPLIT", tie.block(0, 4), 32);
        Due.is("DECIMAL ahead of SPLIT", tie.block(0, 1), 1);
        tie.put(2, Due.bits(far + (1L << 34)));
        Due.is("COST as DECIMAL", tie.cost(0, 0, 0), 33);
        Due.is("SPLIT with a byte less", tie.block(0, 1), 2);
        GuisePack split = Due.of("sl14", ODD[0], ODD[1], ODD[2]);
        Due.is("COST as SPLIT is that as RAW", split.block(0, 4), 27);
        Due.is("RAW ahead of SPLIT", split.block(0, 1), 0);
        split.set(3, 16);
        Due.is("COST as SPLIT by 16", split.block(0, 4), 26);
        Due.is("SPLIT with a byte less than RAW", split.block(0, 1), 2);
        Due.is("COST in its FORM", split.block(0, 3), 26);
    }

    // ---- Promises 8 and 13 ----

    private static void exceptionsByPlace() {
        Due.sentence("Promises 8 and 13", "EXCEPTIONS in its FORM (bits by place; RAW: 0); whether it is an EXCEPTION in its BLOCK's FORM (1, 0; RAW: 0)");
        for (int place = 0; place < 16; place++) {
            long[] values = like(16, Due.bits(5));
            values[place] = MISSING;
            GuisePack x = Due.of("sb16m16", values);
            Due.is("DECIMAL", x.block(0, 1), 1);
            Due.is("block(0, 5) of place " + place, x.block(0, 5), 1 << place);
            for (int i = 0; i < 16; i++) {
                Due.is("about(" + i + ", 5) of place " + place, x.about(i, 5), i == place ? 1 : 0);
            }
            Due.is("most(9)", x.most(9), 1);
        }
        for (int place = 0; place < 16; place++) {
            long[] values = new long[16];
            for (int i = 0; i < 16; i++) {
                values[i] = i == place ? 0x5555aaaabbbbcccdL : ODD[i % 4];
            }
            GuisePack x = Due.of("sb16l16d1", values);
            Due.is("SPLIT", x.block(0, 1), 2);
            Due.is("block(0, 5) as SPLIT of place " + place, x.block(0, 5), 1 << place);
            Due.is("about(" + place + ", 5) as SPLIT", x.about(place, 5), 1);
            GuisePack y = Due.told("s");
            Due.bytes(y, Due.written(x, 0));
            Due.is("take of what was written", y.take(), 16);
            Due.values("there and back", y, values);
            Due.is("about of another", x.about((place + 1) % 16, 5), 0);
        }
        GuisePack raw = Due.of("sb2", MISSING, ODD[0], MINUS, MINUS, Due.bits(1), Due.bits(1));
        Due.is("RAW", raw.block(0, 1), 0);
        Due.is("block(0, 5) as RAW", raw.block(0, 5), 0);
        Due.is("about(0, 5) as RAW", raw.about(0, 5), 0);
        Due.is("about(1, 5) as RAW", raw.about(1, 5), 0);
        GuisePack both = Due.told("1;2;n;3;4;5;6;7;n;x123456789abcdef0");
        Due.is("DECIMAL first", both.block(0, 5), 4);
        Due.is("RAW behind it", both.block(1, 5), 0);
        Due.is("about(2, 5)", both.about(2, 5), 1);
        Due.is("about(8, 5)", both.about(8, 5), 0);
        Due.is("most(9)", both.most(9), 1);
        // Places of a later BLOCK count from its own first one.
        GuisePack later = Due.told("sb8;1;1;1;1;1;1;1;1;2;n;2;2;2;2;2;2");
        Due.is("block(1, 5)", later.block(1, 5), 2);
        Due.is("about(9, 5)", later.about(9, 5), 1);
        Due.is("about(1, 5)", later.about(1, 5), 0);
    }

    private static void firstLikePlace() {
        Due.sentence("Promise 8", "6 the first place with like bits");
        GuisePack x = Due.told("1;0;-0;n;-n;0;-0;n;1;-n;x3ff0000000000000;x1");
        int[] due = {0, 1, 2, 3, 4, 1, 2, 3, 0, 4, 0, 11};
        for (int i = 0; i < 12; i++) {
            Due.is("about(" + i + ", 6)", x.about(i, 6), due[i]);
        }
        GuisePack all = Due.of("s", like(64, MISSING));
        Due.is("about(63, 6) of 64 like ones", all.about(63, 6), 0);
        Due.is("about(0, 6)", all.about(0, 6), 0);
    }

    // ---- Promises 16 and 17 ----

    private static void writtenTillAColumn() {
        Due.sentence("Promise 17", "The i-th byte of what was written latest (till a COLUMN is told).");
        GuisePack x = Due.told("sb2;7;7;8;9");
        Due.is("octet(0) of nothing written", x.octet(0), NONE);
        Due.is("count(2) of nothing written", x.count(2), 0);
        Due.is("write(1)", x.write(1), 16);
        Due.is("octet(12) of BLOCK 1", x.octet(12), 8);
        Due.is("write(0)", x.write(0), 15);
        Due.is("octet(12) of BLOCK 0", x.octet(12), 7);
        Due.is("octet(15): one fewer now", x.octet(15), NONE);
        x.write(2);
        x.put(0, 1);
        x.image();
        x.drop();
        x.undo();
        x.back();
        x.drop();
        x.drop();
        x.drop();
        x.drop();
        Due.sign(x, "1;");
        x.text();
        Due.bytes(x, Due.checked(0, 1, 1, 1, 1, 1, 1, 1, 1, 1));
        x.take();
        Due.is("octet(12) still", x.octet(12), 7);
        Due.is("count(2) still", x.count(2), 15);
        Due.sign(x, "s");
        x.text();
        Due.is("octet(12) then", x.octet(12), NONE);
        Due.is("octet(0) then", x.octet(0), NONE);
        Due.is("count(2) then", x.count(2), 0);
    }

    private static void octetBounds() {
        Due.sentence("Promises 16 and 17", "how many bytes. NONE: no such one.");
        for (int n = 1; n <= 16; n++) {
            long[] values = new long[n];
            for (int i = 0; i < n; i++) {
                values[i] = -1L >>> i | 1L << 62 - i;
            }
            GuisePack x = Due.of("sb16l4d1e0", values);
            int length = x.write(0);
            Due.is("write(0) of " + n, length, x.block(0, 3));
            Due.is("count(2)", x.count(2), length);
            Due.is("octet(0)", x.octet(0), x.block(0, 1));
            Due.is("octet(1)", x.octet(1), n);
            Due.is("the last one is there", x.octet(length - 1) != NONE, true);
            int[] none = {-1, length, length + 1, Integer.MAX_VALUE, Integer.MIN_VALUE};
            for (int i : none) {
                Due.is("octet(" + i + ") of " + length, x.octet(i), NONE);
            }
            int[] blocks = {-1, 1, Integer.MAX_VALUE, Integer.MIN_VALUE};
            for (int k : blocks) {
                Due.is("write(" + k + ")", x.write(k), NONE);
            }
        }
        // Each byte is 0 .. 255.
        GuisePack x = Due.of("s", -1L, 0x80ff7f0001fe81aaL);
        int[] due = {0, 2, 255, 255, 255, 255, 255, 255, 255, 255, 128, 255, 127, 0, 1, 254, 129, 170};
        Due.rows("bytes above 127", Due.written(x, 0), Due.checked(due));
    }
}
