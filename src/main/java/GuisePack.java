import java.util.NoSuchElementException;

/** Columns of numbers in double precision that are decimals in disguise. */
public final class GuisePack {
    public static final int NONE = -1;
    public static final int HIDDEN = -1000000;

    // The RULES by their numbers, with their bounds and what they are when nothing is told.
    private static final int BLOCK = 0;
    private static final int SAMPLE = 1;
    private static final int TOP = 2;
    private static final int HIGH = 3;
    private static final int DICTIONARY = 4;
    private static final int RULES = 5;
    private static final int[] LOWEST = {2, 1, 0, 4, 1};
    private static final int[] HIGHEST = {16, 16, 14, 16, 8};
    private static final int[] USUAL = {8, 4, 10, 12, 4};
    private static final char[] LETTERS = {'b', 'm', 'e', 'l', 'd'};

    private static final int RAW = 0;
    private static final int DECIMAL = 1;
    private static final int SPLIT = 2;

    // The sorts of ACTS, as the LOG tells them.
    private static final int COMES = 0;
    private static final int IS_PUT = 1;
    private static final int DROPPED = 2;
    private static final int CHANGED = 3;
    private static final int RULE_SET = 4;
    private static final int TAKEN = 5;

    // Why an ACT is refused, as STATUS counts it.
    private static final int NO_SUCH = 0;
    private static final int OUT_OF_BOUNDS = 1;
    private static final int IS_SO = 2;
    private static final int TOO_MANY = 3;
    private static final int AT_FAULT = 4;
    private static final int REASONS = 5;

    private static final int MOST_VALUES = 64;
    private static final int MOST_TOLD = 40;
    private static final int MOST_IN_BLOCK = 16;
    private static final int MOST_OCTETS = 320;
    private static final int MOST_NOTED = 60;
    private static final int MOST_UNDONE = 40;
    private static final int MOST_PARTS = 8;
    private static final int MOST_WIDTH = 53;
    private static final int MOST_DIGITS = 9;
    private static final int FIVE = 5;
    private static final int POWERS = 15;
    private static final int PAIRS = POWERS * (POWERS + 1) / 2;

    private static final long MINUS = 0x8000000000000000L;
    private static final long INFINITE = 0x7ff0000000000000L;
    private static final long MISSING = 0x7ff8000000000000L;
    private static final long FRACTION = 0x000fffffffffffffL;
    // No R is as low as this one: it stands for a VALUE that does not FIT.
    private static final long NO_FIT = 0x8000000000000000L;

    private final Doubles doubles;
    private final Octets tape;
    private final Octets written;
    private final TextReader textReader;
    private final BlockReader blockReader;
    private final Column column;
    private final Column kept;
    private final Past past;
    private final Fits fits;
    private final Plan plan;
    private final Plan otherPlan;
    private final BlockWriter writer;
    private final int[] refused;
    private final long[] sums;
    private boolean told;
    private boolean imaged;
    private boolean stale;

    public GuisePack() {
        doubles = new Doubles();
        tape = new Octets();
        written = new Octets();
        textReader = new TextReader(tape, doubles);
        blockReader = new BlockReader(tape, doubles);
        column = new Column();
        kept = new Column();
        past = new Past();
        fits = new Fits(doubles);
        plan = new Plan(fits, column);
        otherPlan = new Plan(fits, column);
        writer = new BlockWriter(written);
        refused = new int[REASONS];
        sums = new long[MOST_VALUES];
    }

    // ---- the TAPE ----

    public int feed(int a, int b, int c, int d, int e) {
        if (tape.length + 20 > MOST_OCTETS) {
            return NONE;
        }
        tape.appendInt(a);
        tape.appendInt(b);
        tape.appendInt(c);
        tape.appendInt(d);
        tape.appendInt(e);
        return tape.length;
    }

    public boolean end(int n) {
        if (n < 0 || n > tape.length) {
            return false;
        }
        tape.length = n;
        return true;
    }

    public int fault(int sort) {
        if (sort == 0) {
            return textReader.read();
        }
        if (sort == 1) {
            return blockReader.read();
        }
        return -2;
    }

    public int text() {
        if (textReader.read() != NONE) {
            return NONE;
        }
        column.become(textReader.column);
        past.held = 0;
        imaged = false;
        written.length = 0;
        tape.length = 0;
        told = true;
        stale = true;
        return column.size;
    }

    public long peek(int i) {
        if (blockReader.read() != NONE || i < 0 || i >= blockReader.size) {
            return HIDDEN;
        }
        return blockReader.values[i];
    }

    // ---- the COLUMN as it is ----

    public int rule(int what) {
        if (!told || !isRule(what)) {
            return NONE;
        }
        return column.rules[what];
    }

    public long value(int i) throws NoSuchElementException {
        if (!hasPlace(i)) {
            throw new NoSuchElementException("no such VALUE");
        }
        return column.bits[i];
    }

    public int about(int i, int what) {
        if (!hasPlace(i)) {
            return HIDDEN;
        }
        switch (what) {
            case 0: return isFinite(column.bits[i]) ? 1 : 0;
            case 1: return placesOf(i, current().pairs());
            case 2: return waysOf(i, current().pairs());
            case 3: return current().blockAt(i);
            case 4: return current().partAt(i);
            case 5: return current().isException(i) ? 1 : 0;
            case 6: return column.firstLike(i);
            default: return HIDDEN;
        }
    }

    public long guise(int i, int e, int f) {
        if (!hasPlace(i) || !isPair(e, f)) {
            return HIDDEN;
        }
        current();
        long whole = fits.at(i, pairNumber(e, f));
        return whole == NO_FIT ? HIDDEN : whole;
    }

    public long common(int what) {
        if (!told || column.size == 0 || what < 0 || what > 1) {
            return HIDDEN;
        }
        int most = 0;
        int first = 0;
        for (int i = 0; i < column.size; i++) {
            int like = column.countLike(i);
            if (like > most) {
                most = like;
                first = i;
            }
        }
        return what == 0 ? column.bits[first] : most;
    }

    public long sum(int what) {
        if (!told || what < 0 || what > 1) {
            return HIDDEN;
        }
        return what == 0 ? sumInOrder() : sumByPairs();
    }

    public int near(int i, int j) {
        if (!hasPlace(i) || !hasPlace(j)) {
            return NONE;
        }
        return Long.bitCount(column.bits[i] ^ column.bits[j]);
    }

    // ---- PAIRS, BLOCKS and what they cost ----

    public int cost(int block, int e, int f) {
        if (!hasBlock(block) || !isPair(e, f)) {
            return NONE;
        }
        return current().decimalCost(block, pairNumber(e, f));
    }

    public int score(int e, int f) {
        if (!told || !isPair(e, f)) {
            return NONE;
        }
        return current().scoreOf(pairNumber(e, f));
    }

    public int five(int i) {
        if (!told || column.size == 0 || i < 0 || i >= current().fives) {
            return NONE;
        }
        return fits.code(plan.five[i]);
    }

    public int block(int block, int what) {
        if (!hasBlock(block)) {
            return HIDDEN;
        }
        Plan now = current();
        now.weigh(block);
        switch (what) {
            case 0: return now.sizeOf(block);
            case 1: return now.form;
            case 2: return fits.code(now.pair);
            case 3: return now.cost;
            case 4: return now.splitCost(block);
            case 5: return now.exceptions;
            case 6: return now.widthOf(block);
            case 7: return now.parts.count;
            default: return HIDDEN;
        }
    }

    public long whole(int block, int what) {
        if (!hasBlock(block)) {
            return HIDDEN;
        }
        Plan now = current();
        now.weigh(block);
        now.measureBlock(block, now.pair);
        switch (what) {
            case 0: return now.least;
            case 1: return now.greatest;
            case 2: return now.usualWhole(block);
            default: return HIDDEN;
        }
    }

    public int part(int block, int j) {
        if (!hasBlock(block)) {
            return NONE;
        }
        Plan now = current();
        now.divide(block);
        return j >= 0 && j < now.parts.count ? now.parts.high[j] : NONE;
    }

    public int write(int block) {
        if (!hasBlock(block)) {
            return NONE;
        }
        writer.writeOut(current(), block);
        return written.length;
    }

    public int octet(int i) {
        if (i < 0 || i >= written.length) {
            return NONE;
        }
        return written.bytes[i];
    }

    public int most(int what) {
        if (!told || what < 0) {
            return HIDDEN;
        }
        switch (what) {
            case 0: return current().blocks();
            case 1: return current().total();
            case 2: return current().rawTotal();
            case 3: return column.patterns(false);
            case 4: return column.runs();
            case 5: return column.finites();
            case 6: return column.missing();
            case 7: return column.patterns(true);
            case 8: return column.minusZeros();
            case 9: return current().allExceptions();
            case 10: return current().unlikeParts();
            default: return what <= 13 ? current().blocksOf(what - 11) : HIDDEN;
        }
    }

    // ---- what other RULES would do ----

    public int saved(int what, int v) {
        if (!told || !isRule(what) || !isBound(what, v)) {
            return HIDDEN;
        }
        int total = current().total();
        layOther(what, v);
        return total - otherPlan.total();
    }

    public int less(int i) {
        if (!hasPlace(i)) {
            return HIDDEN;
        }
        int total = current().total();
        otherPlan.lay();
        otherPlan.leaveOut(i);
        otherPlan.rank();
        return total - otherPlan.total();
    }

    public int best(int what) {
        if (!told || !isRule(what)) {
            return NONE;
        }
        current();
        int best = LOWEST[what];
        int least = 0;
        for (int v = LOWEST[what]; v <= HIGHEST[what]; v++) {
            layOther(what, v);
            int total = otherPlan.total();
            if (v == LOWEST[what] || total < least) {
                least = total;
                best = v;
            }
        }
        return best;
    }

    public int alone(int what) {
        if (!told || column.size == 0 || what < 0 || what > 1) {
            return NONE;
        }
        Plan now = current();
        int best = 0;
        int least = now.decimalTotal(0);
        for (int pair = 1; pair < now.pairs(); pair++) {
            int total = now.decimalTotal(pair);
            if (total < least) {
                least = total;
                best = pair;
            }
        }
        return what == 0 ? fits.code(best) : least;
    }

    // ---- the ACTS ----

    public int add(long bits) {
        if (!told) {
            return refuse(NO_SUCH);
        }
        if (column.size >= MOST_VALUES) {
            return refuse(TOO_MANY);
        }
        past.keep(column);
        int place = column.size;
        column.append(bits);
        return done(COMES, place, place);
    }

    public int put(int i, long bits) {
        if (!hasPlace(i)) {
            return refuse(NO_SUCH);
        }
        if (column.bits[i] == bits) {
            return refuse(IS_SO);
        }
        past.keep(column);
        column.bits[i] = bits;
        return done(IS_PUT, i, i);
    }

    public int drop() {
        if (!told || column.size == 0) {
            return refuse(NO_SUCH);
        }
        past.keep(column);
        column.size--;
        return done(DROPPED, column.size, column.size);
    }

    public int swap(int i, int j) {
        if (!hasPlace(i) || !hasPlace(j)) {
            return refuse(NO_SUCH);
        }
        if (column.bits[i] == column.bits[j]) {
            return refuse(IS_SO);
        }
        past.keep(column);
        long first = column.bits[i];
        column.bits[i] = column.bits[j];
        column.bits[j] = first;
        return done(CHANGED, i, i);
    }

    public int set(int what, int v) {
        if (!told || !isRule(what)) {
            return refuse(NO_SUCH);
        }
        if (!isBound(what, v)) {
            return refuse(OUT_OF_BOUNDS);
        }
        int was = column.rules[what];
        if (was == v) {
            return refuse(IS_SO);
        }
        past.keep(column);
        column.rules[what] = v;
        return done(RULE_SET, what, was);
    }

    public int take() {
        if (!told) {
            return refuse(NO_SUCH);
        }
        if (blockReader.read() != NONE) {
            return refuse(AT_FAULT);
        }
        int more = blockReader.size;
        if (column.size + more > MOST_VALUES) {
            return refuse(TOO_MANY);
        }
        past.keep(column);
        for (int i = 0; i < more; i++) {
            column.append(blockReader.values[i]);
        }
        tape.length = 0;
        return done(TAKEN, more, more);
    }

    public int status(int what) {
        return what >= 0 && what < REASONS ? refused[what] : NONE;
    }

    public int undo() {
        if (past.held == 0) {
            return NONE;
        }
        past.restore(column);
        stale = true;
        return past.held;
    }

    public int log(int i, int what) {
        if (i < 0 || i >= column.noted || what < 0 || what > 2) {
            return HIDDEN;
        }
        return column.noteAt(i, what);
    }

    public int image() {
        if (!told) {
            return NONE;
        }
        kept.become(column);
        imaged = true;
        return kept.size;
    }

    public int back() {
        if (!imaged) {
            return NONE;
        }
        column.become(kept);
        past.held = 0;
        stale = true;
        return column.size;
    }

    public int count(int what) {
        switch (what) {
            case 0: return column.size;
            case 1: return tape.length;
            case 2: return written.length;
            case 3: return column.noted;
            case 4: return past.held;
            default: return HIDDEN;
        }
    }

    // ---- what the calls share ----

    private int refuse(int why) {
        refused[why]++;
        return NONE;
    }

    private int done(int sort, int number, int answer) {
        column.note(sort, number);
        stale = true;
        return answer;
    }

    private boolean hasPlace(int i) {
        return told && i >= 0 && i < column.size;
    }

    private boolean hasBlock(int block) {
        return told && block >= 0 && block < column.blocks();
    }

    private Plan current() {
        if (stale) {
            fits.learn(column);
            plan.lay();
            plan.rank();
            stale = false;
        }
        return plan;
    }

    // Asked only behind current(), which has learnt what FITS.
    private void layOther(int what, int v) {
        otherPlan.lay();
        otherPlan.rules[what] = v;
        otherPlan.rank();
    }

    private int placesOf(int i, int pairs) {
        for (int pair = 0; pair < pairs; pair++) {
            if (fits.at(i, pair) != NO_FIT) {
                return fits.code(pair) >> 4;
            }
        }
        return NONE;
    }

    private int waysOf(int i, int pairs) {
        int ways = 0;
        for (int pair = 0; pair < pairs; pair++) {
            if (fits.at(i, pair) != NO_FIT) {
                ways++;
            }
        }
        return ways;
    }

    private long sumInOrder() {
        long total = 0;
        for (int i = 0; i < column.size; i++) {
            if (isFinite(column.bits[i])) {
                total = doubles.plus(total, column.bits[i]);
            }
        }
        return total;
    }

    private long sumByPairs() {
        int left = 0;
        for (int i = 0; i < column.size; i++) {
            if (isFinite(column.bits[i])) {
                sums[left] = column.bits[i];
                left++;
            }
        }
        if (left == 0) {
            return 0;
        }
        while (left > 1) {
            int half = left / 2;
            for (int i = 0; i < half; i++) {
                sums[i] = doubles.plus(sums[2 * i], sums[2 * i + 1]);
            }
            if (left % 2 == 1) {
                sums[half] = sums[left - 1];
            }
            left -= half;
        }
        return sums[0];
    }

    private static boolean isRule(int what) {
        return what >= 0 && what < RULES;
    }

    private static boolean isBound(int what, int v) {
        return v >= LOWEST[what] && v <= HIGHEST[what];
    }

    private static boolean isPair(int e, int f) {
        return e >= 0 && e < POWERS && f >= 0 && f <= e;
    }

    private static int pairNumber(int e, int f) {
        return e * (e + 1) / 2 + f;
    }

    private static boolean isFinite(long bits) {
        return (bits & INFINITE) != INFINITE;
    }

    private static boolean isMissing(long bits) {
        return !isFinite(bits) && (bits & FRACTION) != 0;
    }

    // BLOCK is 2 at least in each state; what divides is looked at all the same.
    private static int blocksFor(int size, int each) {
        return each > 0 ? (size + each - 1) / each : 0;
    }

    private static int bitLength(long number) {
        int length = 0;
        while (length < 64 && number >>> length != 0) {
            length++;
        }
        return length;
    }

    /** Bytes in a row of a fixed greatest length. */
    static final class Octets {
        final int[] bytes = new int[MOST_OCTETS];
        int length;

        void append(int octet) {
            if (length < MOST_OCTETS) {
                bytes[length] = octet & 255;
                length++;
            }
        }

        void appendInt(int number) {
            append(number >>> 24);
            append(number >>> 16);
            append(number >>> 8);
            append(number);
        }

        void appendLong(long number) {
            appendInt((int) (number >>> 32));
            appendInt((int) number);
        }

        /** The CHECK of the bytes ahead of this place. */
        int checkAt(int place) {
            int check = 7;
            for (int i = 0; i < place && i < length; i++) {
                check = (31 * check + bytes[i]) % 251;
            }
            return check;
        }
    }

    /** What an ACT may change and an IMAGE keeps: VALUES, RULES and the LOG. */
    static final class Column {
        final long[] bits = new long[MOST_VALUES];
        final int[] rules = new int[RULES];
        private final int[] notes = new int[3 * MOST_NOTED];
        int size;
        int noted;

        Column() {
            clear();
        }

        void clear() {
            size = 0;
            noted = 0;
            System.arraycopy(USUAL, 0, rules, 0, RULES);
        }

        void become(Column other) {
            size = other.size;
            noted = other.noted;
            System.arraycopy(other.bits, 0, bits, 0, other.size);
            System.arraycopy(other.rules, 0, rules, 0, RULES);
            System.arraycopy(other.notes, 0, notes, 0, 3 * other.noted);
        }

        void append(long value) {
            if (size < MOST_VALUES) {
                bits[size] = value;
                size++;
            }
        }

        void note(int sort, int number) {
            if (noted == MOST_NOTED) {
                System.arraycopy(notes, 3, notes, 0, 3 * (MOST_NOTED - 1));
                noted--;
            }
            notes[3 * noted] = sort;
            notes[3 * noted + 1] = number;
            notes[3 * noted + 2] = size;
            noted++;
        }

        int noteAt(int back, int what) {
            return notes[3 * (noted - 1 - back) + what];
        }

        int blocks() {
            return blocksFor(size, rules[BLOCK]);
        }

        int firstLike(int i) {
            for (int j = 0; j < i; j++) {
                if (bits[j] == bits[i]) {
                    return j;
                }
            }
            return i;
        }

        int countLike(int i) {
            int like = 0;
            for (int j = 0; j < size; j++) {
                if (bits[j] == bits[i]) {
                    like++;
                }
            }
            return like;
        }

        int patterns(boolean missingAlone) {
            int patterns = 0;
            for (int i = 0; i < size; i++) {
                if (firstLike(i) == i && (!missingAlone || isMissing(bits[i]))) {
                    patterns++;
                }
            }
            return patterns;
        }

        int runs() {
            int runs = 0;
            for (int i = 0; i < size; i++) {
                if (i == 0 || bits[i] != bits[i - 1]) {
                    runs++;
                }
            }
            return runs;
        }

        int finites() {
            int finites = 0;
            for (int i = 0; i < size; i++) {
                finites += isFinite(bits[i]) ? 1 : 0;
            }
            return finites;
        }

        int missing() {
            int missing = 0;
            for (int i = 0; i < size; i++) {
                missing += isMissing(bits[i]) ? 1 : 0;
            }
            return missing;
        }

        int minusZeros() {
            int zeros = 0;
            for (int i = 0; i < size; i++) {
                zeros += bits[i] == MINUS ? 1 : 0;
            }
            return zeros;
        }
    }

    /** How the COLUMN was ahead of each of the latest ACTS, in a ring. */
    static final class Past {
        private final Column[] columns = new Column[MOST_UNDONE];
        private int next;
        int held;

        Past() {
            for (int i = 0; i < MOST_UNDONE; i++) {
                columns[i] = new Column();
            }
        }

        void keep(Column column) {
            columns[next].become(column);
            next = (next + 1) % MOST_UNDONE;
            if (held < MOST_UNDONE) {
                held++;
            }
        }

        void restore(Column column) {
            next = (next + MOST_UNDONE - 1) % MOST_UNDONE;
            held--;
            column.become(columns[next]);
        }
    }

    /**
     * Numbers in double precision from their bits and back by arithmetic alone,
     * as the library's own ways are not at hand. A zero with a first bit of 1 is
     * never made: what is asked of it is answered on bits.
     */
    static final class Doubles {
        private static final int STEPS = 10;
        private static final int BIAS = 1023;
        private final double[] ten = new double[POWERS];
        private final double[] tenth = new double[POWERS];
        // 2 to the 1, 2, 4 .. 512, and 1 by these.
        private final double[] up = new double[STEPS];
        private final double[] down = new double[STEPS];

        Doubles() {
            ten[0] = 1.0;
            tenth[0] = 1.0;
            for (int k = 1; k < POWERS; k++) {
                ten[k] = ten[k - 1] * 10.0;
                tenth[k] = 1.0 / ten[k];
            }
            up[0] = 2.0;
            down[0] = 0.5;
            for (int k = 1; k < STEPS; k++) {
                up[k] = up[k - 1] * up[k - 1];
                down[k] = down[k - 1] * down[k - 1];
            }
        }

        private double scaled(double number, int by) {
            double[] factors = by < 0 ? down : up;
            double product = number;
            int left = by < 0 ? -by : by;
            for (int k = STEPS - 1; k >= 0; k--) {
                int step = 1 << k;
                while (left >= step) {
                    product = product * factors[k];
                    left -= step;
                }
            }
            return product;
        }

        /** Of a FINITE VALUE. */
        double numberOf(long bits) {
            int exponent = (int) (bits >>> 52) & 2047;
            long fraction = bits & FRACTION;
            double size = exponent == 0
                ? scaled((double) fraction, -1074)
                : scaled((double) (fraction + FRACTION + 1), exponent - 1075);
            return bits < 0 && size > 0.0 ? -size : size;
        }

        long bitsOf(double number) {
            long sign = number < 0.0 ? MINUS : 0L;
            double size = number < 0.0 ? -number : number;
            if (size > 1.7976931348623157E308) {
                return sign | INFINITE;
            }
            if (size < 2.2250738585072014E-308) {
                return sign | (long) scaled(size, 1074);
            }
            int exponent = 0;
            for (int k = STEPS - 1; k >= 0; k--) {
                if (size >= up[k]) {
                    size = size * down[k];
                    exponent += 1 << k;
                } else if (size < 2.0 * down[k]) {
                    size = size * up[k];
                    exponent -= 1 << k;
                }
            }
            long mantissa = (long) (size * 4503599627370496.0);
            return sign | ((long) (exponent + BIAS) << 52) + mantissa - (FRACTION + 1);
        }

        /** Digits as one whole number, so many of them behind the point. */
        long bitsOfDigits(long digits, int behind) {
            return bitsOf((double) digits / ten[behind]);
        }

        double decimal(long whole, int e, int f) {
            return (double) whole * ten[f] * tenth[e];
        }

        /** R of a FINITE VALUE that is no zero with a first bit of 1. */
        long wholeOf(double number, int e, int f) {
            double moved = number * ten[e] * tenth[f];
            if (moved > -2251799813685248.0 && moved < 2251799813685248.0) {
                long whole = (long) (moved + 6755399441055744.0 - 6755399441055744.0);
                return decimal(whole, e, f) == number ? whole : NO_FIT;
            }
            return NO_FIT;
        }

        /** The sum as bits; what is no number is always MISSING. */
        long plus(long a, long b) {
            if (!isFinite(a)) {
                // Of two that are like, or of one with a FINITE one, it is a itself, MISSING or infinite.
                return isFinite(b) || a == b ? a : MISSING;
            }
            if (!isFinite(b)) {
                return b;
            }
            if (a == MINUS && b == MINUS) {
                return MINUS;
            }
            return bitsOf(numberOf(a) + numberOf(b));
        }
    }

    /** Reads the TAPE as a COLUMN; where a step answers false, at is the FAULT. */
    static final class TextReader {
        private final Octets tape;
        private final Doubles doubles;
        final Column column = new Column();
        private final boolean[] given = new boolean[RULES];
        private boolean ruled;
        private int at;
        private long digits;

        TextReader(Octets tape, Doubles doubles) {
            this.tape = tape;
            this.doubles = doubles;
        }

        int read() {
            column.clear();
            ruled = false;
            at = 0;
            for (int clause = 0; clause <= MOST_TOLD + 1; clause++) {
                skipBlanks();
                if (!clauseIn()) {
                    return at;
                }
                skipBlanks();
                if (at >= tape.length) {
                    return NONE;
                }
                if (sign() != ';') {
                    return at;
                }
                at++;
            }
            return at;
        }

        // No sign is told as one that stands nowhere in a TEXT.
        private int sign() {
            return at < tape.length ? tape.bytes[at] : 0;
        }

        private void skipBlanks() {
            while (at < tape.length && tape.bytes[at] == ' ') {
                at++;
            }
        }

        private boolean clauseIn() {
            if (sign() == 's') {
                return !ruled && rulesIn();
            }
            return column.size < MOST_TOLD && valueIn();
        }

        private boolean rulesIn() {
            ruled = true;
            at++;
            for (int k = 0; k < RULES; k++) {
                given[k] = false;
            }
            for (int items = 0; items <= RULES; items++) {
                skipBlanks();
                int rule = ruleBySign(sign());
                if (rule == NONE) {
                    return true;
                }
                if (given[rule]) {
                    return false;
                }
                given[rule] = true;
                at++;
                skipBlanks();
                if (!ruleNumberIn(rule)) {
                    return false;
                }
            }
            return true;
        }

        private static int ruleBySign(int sign) {
            for (int k = 0; k < RULES; k++) {
                if (LETTERS[k] == sign) {
                    return k;
                }
            }
            return NONE;
        }

        private boolean ruleNumberIn(int rule) {
            digits = 0;
            if (digitsIn(2) == NONE) {
                return false;
            }
            if (!isBound(rule, (int) digits)) {
                at--;
                return false;
            }
            column.rules[rule] = (int) digits;
            return true;
        }

        private static boolean isDigit(int sign) {
            return sign >= '0' && sign <= '9';
        }

        /** How many digits stand here, added to those read; NONE: none, or more than may. */
        private int digitsIn(int most) {
            int count = 0;
            while (isDigit(sign())) {
                if (count == most) {
                    return NONE;
                }
                digits = 10 * digits + (sign() - '0');
                count++;
                at++;
            }
            return count == 0 ? NONE : count;
        }

        private boolean valueIn() {
            boolean minus = sign() == '-';
            if (minus) {
                at++;
            }
            int first = sign();
            if (first == 'i' || first == 'n') {
                at++;
                return come(first == 'i' ? INFINITE : MISSING, minus);
            }
            if (first == 'x' && !minus) {
                at++;
                return bitsIn();
            }
            return numberIn(minus);
        }

        private boolean come(long bits, boolean minus) {
            column.append(minus ? bits ^ MINUS : bits);
            return true;
        }

        private boolean bitsIn() {
            long bits = 0;
            int count = 0;
            while (hexOf(sign()) != NONE) {
                if (count == 16) {
                    return false;
                }
                bits = bits << 4 | hexOf(sign());
                count++;
                at++;
            }
            return count > 0 && come(bits, false);
        }

        private static int hexOf(int sign) {
            if (isDigit(sign)) {
                return sign - '0';
            }
            return sign >= 'a' && sign <= 'f' ? sign - 'a' + 10 : NONE;
        }

        private boolean numberIn(boolean minus) {
            digits = 0;
            if (digitsIn(MOST_DIGITS) == NONE) {
                return false;
            }
            int behind = 0;
            if (sign() == '.') {
                at++;
                behind = digitsIn(MOST_DIGITS);
            }
            return behind != NONE && come(doubles.bitsOfDigits(digits, behind), minus);
        }
    }

    /** Reads the TAPE as a BLOCK; where a step answers false, at is the FAULT. */
    static final class BlockReader {
        private final Octets tape;
        private final Doubles doubles;
        final long[] values = new long[MOST_IN_BLOCK];
        int size;
        private final int[] high = new int[MOST_PARTS];
        private int at;
        private int bitAt;
        private long got;

        BlockReader(Octets tape, Doubles doubles) {
            this.tape = tape;
            this.doubles = doubles;
        }

        int read() {
            at = 0;
            if (!octetIn(0, 2)) {
                return at;
            }
            int form = (int) got;
            if (!octetIn(1, MOST_IN_BLOCK)) {
                return at;
            }
            size = (int) got;
            if (!valuesIn(form) || !checkIn()) {
                return at;
            }
            return at < tape.length ? at : NONE;
        }

        private boolean valuesIn(int form) {
            if (form == RAW) {
                return rawIn();
            }
            return form == DECIMAL ? decimalIn() : splitIn();
        }

        private boolean checkIn() {
            int check = tape.checkAt(at);
            return octetIn(check, check);
        }

        private boolean octetIn(int lowest, int highest) {
            if (at >= tape.length) {
                return false;
            }
            int octet = tape.bytes[at];
            if (octet < lowest || octet > highest) {
                return false;
            }
            got = octet;
            at++;
            return true;
        }

        private boolean longIn() {
            long number = 0;
            for (int i = 0; i < 8; i++) {
                if (!octetIn(0, 255)) {
                    return false;
                }
                number = number << 8 | got;
            }
            got = number;
            return true;
        }

        /** Two bytes, below 2 to the h. */
        private boolean highIn(int h) {
            int highest = (1 << h) - 1;
            if (!octetIn(0, highest >> 8)) {
                return false;
            }
            long first = got;
            if (!octetIn(0, highest & 255)) {
                return false;
            }
            got = first << 8 | got;
            return true;
        }

        private boolean bitsIn(int width) {
            long number = 0;
            for (int i = 0; i < width; i++) {
                int octet = bitAt >> 3;
                if (octet >= tape.length) {
                    at = tape.length;
                    return false;
                }
                number = number << 1 | (tape.bytes[octet] >> (7 - (bitAt & 7)) & 1);
                bitAt++;
            }
            got = number;
            return true;
        }

        private boolean fillingIn() {
            if (!bitsIn(-bitAt & 7)) {
                return false;
            }
            if (got != 0) {
                at = (bitAt - 1) >> 3;
                return false;
            }
            at = bitAt >> 3;
            return true;
        }

        private boolean rawIn() {
            for (int i = 0; i < size; i++) {
                if (!longIn()) {
                    return false;
                }
                values[i] = got;
            }
            return true;
        }

        private boolean decimalIn() {
            if (!octetIn(0, POWERS - 1)) {
                return false;
            }
            int e = (int) got;
            if (!octetIn(0, e)) {
                return false;
            }
            int f = (int) got;
            if (!octetIn(0, size)) {
                return false;
            }
            int exceptions = (int) got;
            return wholesIn(e, f) && decimalExceptionsIn(exceptions);
        }

        private boolean wholesIn(int e, int f) {
            if (!longIn()) {
                return false;
            }
            long base = got;
            if (!octetIn(0, MOST_WIDTH)) {
                return false;
            }
            int width = (int) got;
            bitAt = 8 * at;
            for (int i = 0; i < size; i++) {
                if (!bitsIn(width)) {
                    return false;
                }
                values[i] = doubles.bitsOf(doubles.decimal(base + got, e, f));
            }
            return fillingIn();
        }

        private boolean decimalExceptionsIn(int exceptions) {
            int lowest = 0;
            for (int left = exceptions; left > 0; left--) {
                if (!octetIn(lowest, size - left)) {
                    return false;
                }
                int place = (int) got;
                lowest = place + 1;
                if (!longIn()) {
                    return false;
                }
                values[place] = got;
            }
            return true;
        }

        private boolean splitIn() {
            if (!octetIn(4, 16)) {
                return false;
            }
            int h = (int) got;
            if (!octetIn(1, MOST_PARTS)) {
                return false;
            }
            int parts = (int) got;
            for (int j = 0; j < parts; j++) {
                if (!highIn(h)) {
                    return false;
                }
                high[j] = (int) got;
            }
            if (!octetIn(0, size)) {
                return false;
            }
            int exceptions = (int) got;
            return codesIn(h, parts) && splitExceptionsIn(h, exceptions);
        }

        private boolean codesIn(int h, int parts) {
            int codeBits = bitLength(parts - 1);
            bitAt = 8 * at;
            for (int i = 0; i < size; i++) {
                if (!bitsIn(codeBits)) {
                    return false;
                }
                int code = (int) got;
                if (code >= parts) {
                    at = (bitAt - 1) >> 3;
                    return false;
                }
                if (!bitsIn(64 - h)) {
                    return false;
                }
                values[i] = (long) high[code] << (64 - h) | got;
            }
            return fillingIn();
        }

        private boolean splitExceptionsIn(int h, int exceptions) {
            int lowest = 0;
            for (int left = exceptions; left > 0; left--) {
                if (!octetIn(lowest, size - left)) {
                    return false;
                }
                int place = (int) got;
                lowest = place + 1;
                if (!highIn(h)) {
                    return false;
                }
                values[place] = got << (64 - h) | values[place] & (1L << (64 - h)) - 1;
            }
            return true;
        }
    }

    /** R of each VALUE by each PAIR, worked out anew only where a VALUE is another one. */
    static final class Fits {
        private final Doubles doubles;
        private final int[] codes = new int[PAIRS];
        private final boolean[] known = new boolean[MOST_VALUES];
        private final long[] bits = new long[MOST_VALUES];
        final long[] wholes = new long[MOST_VALUES * PAIRS];

        Fits(Doubles doubles) {
            this.doubles = doubles;
            int pair = 0;
            for (int e = 0; e < POWERS; e++) {
                for (int f = 0; f <= e; f++) {
                    codes[pair] = 16 * e + f;
                    pair++;
                }
            }
        }

        int code(int pair) {
            return codes[pair];
        }

        long at(int place, int pair) {
            return wholes[place * PAIRS + pair];
        }

        void learn(Column column) {
            for (int i = 0; i < column.size; i++) {
                if (!known[i] || bits[i] != column.bits[i]) {
                    known[i] = true;
                    bits[i] = column.bits[i];
                    learnOne(i);
                }
            }
        }

        private void learnOne(int place) {
            // R is never a zero with a first bit of 1: such a VALUE FITS by none.
            boolean able = isFinite(bits[place]) && bits[place] != MINUS;
            double number = able ? doubles.numberOf(bits[place]) : 0.0;
            for (int pair = 0; pair < PAIRS; pair++) {
                wholes[place * PAIRS + pair] = able
                    ? doubles.wholeOf(number, codes[pair] >> 4, codes[pair] & 15)
                    : NO_FIT;
            }
        }
    }

    /** The PARTS of one BLOCK and who has none of them. */
    static final class Parts {
        final int[] high = new int[MOST_PARTS];
        int count;
        int missed;
        private final int[] all = new int[MOST_IN_BLOCK];
        private final int[] often = new int[MOST_IN_BLOCK];
        private int size;

        void start() {
            size = 0;
        }

        void offer(int part) {
            if (size >= MOST_IN_BLOCK) {
                return;
            }
            all[size] = part;
            often[size] = 0;
            int first = 0;
            while (first < size && all[first] != part) {
                first++;
            }
            often[first]++;
            size++;
        }

        void choose(int most) {
            count = 0;
            for (int j = 0; j < most; j++) {
                int first = mostOften();
                if (first != NONE) {
                    high[count] = all[first];
                    count++;
                    often[first] = 0;
                }
            }
            missed = 0;
            for (int i = 0; i < size; i++) {
                if (codeOf(all[i]) == NONE) {
                    missed |= 1 << i;
                }
            }
        }

        private int mostOften() {
            int best = NONE;
            int most = 0;
            for (int i = 0; i < size; i++) {
                if (often[i] > most) {
                    most = often[i];
                    best = i;
                }
            }
            return best;
        }

        int codeOf(int part) {
            for (int j = 0; j < count; j++) {
                if (high[j] == part) {
                    return j;
                }
            }
            return NONE;
        }

        int codeBits() {
            return bitLength(count - 1);
        }
    }

    /** The BLOCKS of the COLUMN, or of one that would be by other RULES or without a VALUE. */
    static final class Plan {
        private final Fits fits;
        private final Column column;
        final int[] rules = new int[RULES];
        // Which place of the COLUMN each VALUE has here.
        private final int[] picked = new int[MOST_VALUES];
        private int size;
        final int[] five = new int[FIVE];
        private final int[] scores = new int[FIVE];
        int fives;
        final Parts parts = new Parts();
        // What measure found latest.
        long least;
        long greatest;
        private int fitting;
        // What weigh found latest.
        int pair;
        int form;
        int cost;
        int exceptions;

        Plan(Fits fits, Column column) {
            this.fits = fits;
            this.column = column;
            lay();
        }

        void lay() {
            System.arraycopy(column.rules, 0, rules, 0, RULES);
            size = column.size;
            for (int i = 0; i < size; i++) {
                picked[i] = i;
            }
        }

        void leaveOut(int place) {
            size--;
            for (int i = place; i < size; i++) {
                picked[i] = i + 1;
            }
        }

        // ---- BLOCKS ----

        int blocks() {
            return blocksFor(size, rules[BLOCK]);
        }

        int blockAt(int i) {
            return rules[BLOCK] > 0 ? i / rules[BLOCK] : 0;
        }

        int startOf(int block) {
            return block * rules[BLOCK];
        }

        int sizeOf(int block) {
            int left = size - startOf(block);
            return left < rules[BLOCK] ? left : rules[BLOCK];
        }

        long bitsAt(int i) {
            return column.bits[picked[i]];
        }

        int partAt(int i) {
            return (int) (bitsAt(i) >>> (64 - rules[HIGH]));
        }

        long wholeAt(int i, int byPair) {
            return fits.at(picked[i], byPair);
        }

        // ---- the FIVE ----

        int pairs() {
            return pairNumber(rules[TOP] + 1, 0);
        }

        void rank() {
            fives = 0;
            for (int p = 0; p < pairs(); p++) {
                rankOne(p, scoreOf(p));
            }
        }

        private void rankOne(int byPair, int score) {
            int at = fives;
            while (at > 0 && scores[at - 1] > score) {
                at--;
            }
            if (at >= FIVE) {
                return;
            }
            fives = Math.min(fives + 1, FIVE);
            for (int i = fives - 1; i > at; i--) {
                five[i] = five[i - 1];
                scores[i] = scores[i - 1];
            }
            five[at] = byPair;
            scores[at] = score;
        }

        int scoreOf(int byPair) {
            int score = 0;
            for (int block = 0; block < blocks(); block++) {
                score += sampleCost(block, byPair);
            }
            return score;
        }

        // ---- COSTS ----

        private int sampleCost(int block, int byPair) {
            int all = sizeOf(block);
            int sampled = all < rules[SAMPLE] ? all : rules[SAMPLE];
            measure(block, all, sampled, byPair);
            return measuredCost(sampled);
        }

        int decimalCost(int block, int byPair) {
            measureBlock(block, byPair);
            return measuredCost(sizeOf(block));
        }

        void measureBlock(int block, int byPair) {
            int all = sizeOf(block);
            measure(block, all, all, byPair);
        }

        private void measure(int block, int all, int sampled, int byPair) {
            int start = startOf(block);
            least = 0;
            greatest = 0;
            fitting = 0;
            for (int i = 0; i < sampled; i++) {
                // Read here, not by wholeAt: this is by far the most frequent step.
                long whole = fits.wholes[picked[start + i * all / sampled] * PAIRS + byPair];
                if (whole != NO_FIT) {
                    least = fitting == 0 ? whole : Math.min(least, whole);
                    greatest = fitting == 0 ? whole : Math.max(greatest, whole);
                    fitting++;
                }
            }
        }

        private int measuredCost(int values) {
            int bits = values * bitLength(greatest - least);
            return 15 + (bits + 7) / 8 + 9 * (values - fitting);
        }

        int widthOf(int block) {
            measureBlock(block, pair);
            return bitLength(greatest - least);
        }

        int rawCost(int block) {
            return 3 + 8 * sizeOf(block);
        }

        void divide(int block) {
            parts.start();
            for (int i = 0; i < sizeOf(block); i++) {
                parts.offer(partAt(startOf(block) + i));
            }
            parts.choose(rules[DICTIONARY]);
        }

        int splitCost(int block) {
            divide(block);
            int bits = sizeOf(block) * (parts.codeBits() + 64 - rules[HIGH]);
            return 6 + 2 * parts.count + (bits + 7) / 8 + 3 * Integer.bitCount(parts.missed);
        }

        private int pairOf(int block) {
            int best = 0;
            int bestCost = 0;
            for (int i = 0; i < fives; i++) {
                int sample = sampleCost(block, five[i]);
                if (i == 0 || sample < bestCost) {
                    best = five[i];
                    bestCost = sample;
                }
            }
            return best;
        }

        /** The PAIR, the FORM, its COST and its EXCEPTIONS of a BLOCK. */
        void weigh(int block) {
            pair = pairOf(block);
            form = RAW;
            cost = rawCost(block);
            exceptions = 0;
            int decimal = decimalCost(block, pair);
            if (decimal < cost) {
                form = DECIMAL;
                cost = decimal;
                exceptions = unfitting(block);
            }
            int split = splitCost(block);
            if (split < cost) {
                form = SPLIT;
                cost = split;
                exceptions = parts.missed;
            }
        }

        private int unfitting(int block) {
            int places = 0;
            for (int i = 0; i < sizeOf(block); i++) {
                if (wholeAt(startOf(block) + i, pair) == NO_FIT) {
                    places |= 1 << i;
                }
            }
            return places;
        }

        boolean isException(int i) {
            int block = blockAt(i);
            weigh(block);
            return (exceptions >> (i - startOf(block)) & 1) == 1;
        }

        /** The R of most VALUES; measured by the PAIR ahead. */
        long usualWhole(int block) {
            long usual = least;
            int most = 0;
            for (int i = 0; i < sizeOf(block); i++) {
                long whole = wholeAt(startOf(block) + i, pair);
                int often = whole == NO_FIT ? 0 : countWhole(block, whole);
                if (often > most || often == most && often > 0 && whole < usual) {
                    usual = whole;
                    most = often;
                }
            }
            return usual;
        }

        private int countWhole(int block, long whole) {
            int often = 0;
            for (int i = 0; i < sizeOf(block); i++) {
                if (wholeAt(startOf(block) + i, pair) == whole) {
                    often++;
                }
            }
            return often;
        }

        // ---- all BLOCKS ----

        int total() {
            int total = 0;
            for (int block = 0; block < blocks(); block++) {
                weigh(block);
                total += cost;
            }
            return total;
        }

        int rawTotal() {
            int total = 0;
            for (int block = 0; block < blocks(); block++) {
                total += rawCost(block);
            }
            return total;
        }

        int decimalTotal(int byPair) {
            int total = 0;
            for (int block = 0; block < blocks(); block++) {
                total += decimalCost(block, byPair);
            }
            return total;
        }

        int allExceptions() {
            int all = 0;
            for (int block = 0; block < blocks(); block++) {
                weigh(block);
                all += Integer.bitCount(exceptions);
            }
            return all;
        }

        int blocksOf(int byForm) {
            int count = 0;
            for (int block = 0; block < blocks(); block++) {
                weigh(block);
                count += form == byForm ? 1 : 0;
            }
            return count;
        }

        int unlikeParts() {
            int unlike = 0;
            for (int i = 0; i < size; i++) {
                int first = 0;
                while (first < i && partAt(first) != partAt(i)) {
                    first++;
                }
                unlike += first == i ? 1 : 0;
            }
            return unlike;
        }
    }

    /** Writes a BLOCK out in its FORM. */
    static final class BlockWriter {
        private final Octets out;
        private int pending;
        private int pendingBits;

        BlockWriter(Octets out) {
            this.out = out;
        }

        void writeOut(Plan plan, int block) {
            out.length = 0;
            plan.weigh(block);
            out.append(plan.form);
            out.append(plan.sizeOf(block));
            if (plan.form == RAW) {
                rawOut(plan, block);
            } else if (plan.form == DECIMAL) {
                decimalOut(plan, block);
            } else {
                splitOut(plan, block);
            }
            out.append(out.checkAt(out.length));
        }

        private void bitsOut(long number, int width) {
            for (int k = width - 1; k >= 0; k--) {
                pending = pending << 1 | (int) (number >>> k & 1);
                pendingBits++;
                if (pendingBits == 8) {
                    out.append(pending);
                    pending = 0;
                    pendingBits = 0;
                }
            }
        }

        private void fillingOut() {
            if (pendingBits > 0) {
                bitsOut(0, 8 - pendingBits);
            }
        }

        private void rawOut(Plan plan, int block) {
            for (int i = 0; i < plan.sizeOf(block); i++) {
                out.appendLong(plan.bitsAt(plan.startOf(block) + i));
            }
        }

        private void decimalOut(Plan plan, int block) {
            int code = plan.fits.code(plan.pair);
            int width = plan.widthOf(block);
            out.append(code >> 4);
            out.append(code & 15);
            out.append(Integer.bitCount(plan.exceptions));
            out.appendLong(plan.least);
            out.append(width);
            for (int i = 0; i < plan.sizeOf(block); i++) {
                long whole = plan.wholeAt(plan.startOf(block) + i, plan.pair);
                bitsOut(whole == NO_FIT ? 0 : whole - plan.least, width);
            }
            fillingOut();
            for (int i = 0; i < plan.sizeOf(block); i++) {
                if ((plan.exceptions >> i & 1) == 1) {
                    out.append(i);
                    out.appendLong(plan.bitsAt(plan.startOf(block) + i));
                }
            }
        }

        private void splitOut(Plan plan, int block) {
            int high = plan.rules[HIGH];
            Parts parts = plan.parts;
            out.append(high);
            out.append(parts.count);
            for (int j = 0; j < parts.count; j++) {
                out.append(parts.high[j] >> 8);
                out.append(parts.high[j]);
            }
            out.append(Integer.bitCount(plan.exceptions));
            for (int i = 0; i < plan.sizeOf(block); i++) {
                int place = plan.startOf(block) + i;
                bitsOut(Math.max(parts.codeOf(plan.partAt(place)), 0), parts.codeBits());
                bitsOut(plan.bitsAt(place), 64 - high);
            }
            fillingOut();
            for (int i = 0; i < plan.sizeOf(block); i++) {
                if ((plan.exceptions >> i & 1) == 1) {
                    int part = plan.partAt(plan.startOf(block) + i);
                    out.append(i);
                    out.append(part >> 8);
                    out.append(part);
                }
            }
        }
    }
}
