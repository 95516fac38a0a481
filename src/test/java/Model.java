import java.util.ArrayList;
import java.util.Arrays;
import java.util.Collections;
import java.util.HashMap;
import java.util.HashSet;
import java.util.LinkedHashMap;
import java.util.List;
import java.util.Map;
import java.util.Set;
import java.util.TreeSet;
import java.util.function.ToLongFunction;
import java.util.regex.Matcher;
import java.util.regex.Pattern;

/** The document once more, with all of Java's library and no care for speed: what the class is compared with. */
final class Model {
    static final int NONE = -1;
    static final int HIDDEN = -1000000;
    static final int[] LOW = {2, 1, 0, 4, 1};
    static final int[] TOP = {16, 16, 14, 16, 8};
    static final String LETTERS = "bmeld";
    static final long MINUS = Long.MIN_VALUE;

    record Act(int sort, int number, int size) { }

    /** Never changed once made. */
    record Column(List<Long> values, List<Integer> rules, List<Act> log) {
        int rule(int k) {
            return rules.get(k);
        }
    }

    record Pair(int e, int f) {
        int code() {
            return 16 * e + f;
        }
    }

    record Told(int fault, Column column) { }

    record Read(int fault, List<Long> values) { }

    static final class Bad extends RuntimeException {
        private static final long serialVersionUID = 1;
        final int at;

        Bad(int at) {
            this.at = at;
        }
    }

    private List<Integer> tape = new ArrayList<>();
    private List<Integer> written = new ArrayList<>();
    private Column column = null;
    private Column kept = null;
    private List<Column> past = new ArrayList<>();
    private final int[] status = new int[5];

    // ---- the TAPE ----

    int feed(int... five) {
        if (tape.size() + 20 > 320) {
            return NONE;
        }
        for (int number : five) {
            for (int shift = 24; shift >= 0; shift -= 8) {
                tape.add(number >>> shift & 255);
            }
        }
        return tape.size();
    }

    boolean end(int n) {
        if (n < 0 || n > tape.size()) {
            return false;
        }
        tape = new ArrayList<>(tape.subList(0, n));
        return true;
    }

    int fault(int sort) {
        return sort == 0 ? readText(tape).fault : sort == 1 ? readBlock(tape).fault : -2;
    }

    private static final String VALUE = "(?:-?[in]|x[0-9a-f]{1,16}|-?[0-9]{1,9}(?:\\.[0-9]{1,9})?)";
    private static final String CLAUSE = "(?: *(?:s(?: *[bmeld] *[0-9]{1,2})*|" + VALUE + ") *)";
    private static final Pattern TEXT = Pattern.compile(CLAUSE + "(?:;" + CLAUSE + ")*+");

    static Told readText(List<Integer> bytes) {
        StringBuilder text = new StringBuilder();
        for (int octet : bytes) {
            text.append((char) octet);
        }
        int wrong = syntaxFault(text.toString());
        return readClauses(text.toString(), wrong);
    }

    /** The first sign with which the signs up to it are the start of no TEXT, bounds and counts aside. */
    private static int syntaxFault(String text) {
        for (int k = 1; k <= text.length(); k++) {
            Matcher matcher = TEXT.matcher(text.substring(0, k));
            if (!matcher.matches() && !matcher.hitEnd()) {
                return k - 1;
            }
        }
        return TEXT.matcher(text).matches() ? NONE : text.length();
    }

    private static Told readClauses(String text, int wrong) {
        int end = wrong == NONE ? text.length() : wrong;
        List<Long> values = new ArrayList<>();
        List<Integer> rules = new ArrayList<>(List.of(8, 4, 10, 12, 4));
        boolean ruled = false;
        int from = 0;
        while (from <= end) {
            int to = text.indexOf(';', from);
            to = to < 0 || to > end ? end : to;
            int first = from;
            while (first < to && text.charAt(first) == ' ') {
                first++;
            }
            boolean full = ruled && values.size() == 40;
            if (first == to) {
                // An empty clause is wrong by the syntax alone.
                return new Told(wrong == NONE ? first : wrong, null);
            }
            char sign = text.charAt(first);
            if (sign == 's' ? ruled : values.size() == 40 || full) {
                return new Told(first, null);
            }
            if (sign == 's') {
                ruled = true;
                int bad = readRules(text, first + 1, to, wrong, rules);
                if (bad != NONE) {
                    return new Told(bad, null);
                }
            } else if (to < end || wrong == NONE) {
                values.add(valueOf(text.substring(first, to).trim()));
            }
            from = to + 1;
        }
        if (wrong != NONE && wrong < text.length()) {
            // What is wrong by the syntax may be the first sign of a 41st VALUE all the same: same place.
            return new Told(wrong, null);
        }
        return wrong == NONE ? new Told(NONE, new Column(values, rules, List.of())) : new Told(wrong, null);
    }

    private static int readRules(String text, int from, int to, int wrong, List<Integer> rules) {
        Set<Character> seen = new HashSet<>();
        Matcher items = Pattern.compile("([bmeld])( *)([0-9]{0,2})").matcher(text).region(from, to);
        while (items.find()) {
            char letter = items.group(1).charAt(0);
            if (!seen.add(letter)) {
                return items.start(1);
            }
            if (items.group(3).isEmpty()) {
                continue;
            }
            boolean third = items.end() == wrong && wrong < text.length() && Character.isDigit(text.charAt(wrong));
            int rule = LETTERS.indexOf(letter);
            int number = Integer.parseInt(items.group(3));
            boolean last = items.group(3).length() == 2 || !third;
            if (third && items.group(3).length() == 2) {
                return wrong;
            }
            if (last && (number < LOW[rule] || number > TOP[rule])) {
                return items.end() - 1;
            }
            rules.set(rule, number);
        }
        return NONE;
    }

    private static long valueOf(String told) {
        if (told.startsWith("x")) {
            return Long.parseUnsignedLong(told.substring(1), 16);
        }
        long sign = told.startsWith("-") ? MINUS : 0;
        String rest = told.startsWith("-") ? told.substring(1) : told;
        if (rest.equals("i")) {
            return sign | 0x7ff0000000000000L;
        }
        if (rest.equals("n")) {
            return sign | 0x7ff8000000000000L;
        }
        int point = rest.indexOf('.');
        int behind = point < 0 ? 0 : rest.length() - point - 1;
        double number = (double) Long.parseLong(rest.replace(".", "")) / ten(behind);
        return sign ^ Double.doubleToRawLongBits(number);
    }

    int text() {
        Told told = readText(tape);
        if (told.fault != NONE) {
            return NONE;
        }
        column = told.column;
        kept = null;
        past = new ArrayList<>();
        written = new ArrayList<>();
        tape = new ArrayList<>();
        return column.values.size();
    }

    // ---- BLOCKS of bytes ----

    private static int next(List<Integer> bytes, int[] at, int low, int high) {
        if (at[0] >= bytes.size() || bytes.get(at[0]) < low || bytes.get(at[0]) > high) {
            throw new Bad(at[0]);
        }
        return bytes.get(at[0]++);
    }

    private static long eight(List<Integer> bytes, int[] at) {
        long number = 0;
        for (int i = 0; i < 8; i++) {
            number = number * 256 + next(bytes, at, 0, 255);
        }
        return number;
    }

    private static int two(List<Integer> bytes, int[] at, int h) {
        int first = next(bytes, at, 0, h < 8 ? 0 : (1 << h - 8) - 1);
        int second = next(bytes, at, 0, h < 8 ? (1 << h) - 1 : 255);
        return first * 256 + second;
    }

    static Read readBlock(List<Integer> bytes) {
        try {
            int[] at = {0};
            int form = next(bytes, at, 0, 2);
            int n = next(bytes, at, 1, 16);
            List<Long> values = form == 0 ? raw(bytes, at, n) : form == 1 ? decimal(bytes, at, n) : split(bytes, at, n);
            int check = check(bytes.subList(0, at[0]));
            next(bytes, at, check, check);
            return at[0] < bytes.size() ? new Read(at[0], null) : new Read(NONE, values);
        } catch (Bad bad) {
            return new Read(bad.at, null);
        }
    }

    static int check(List<Integer> bytes) {
        int c = 7;
        for (int octet : bytes) {
            c = (31 * c + octet) % 251;
        }
        return c;
    }

    private static List<Long> raw(List<Integer> bytes, int[] at, int n) {
        List<Long> values = new ArrayList<>();
        for (int i = 0; i < n; i++) {
            values.add(eight(bytes, at));
        }
        return values;
    }

    /** The bits from here on, as many as there are. */
    private static String bitsFrom(List<Integer> bytes, int from) {
        StringBuilder bits = new StringBuilder();
        for (int octet : bytes.subList(from, bytes.size())) {
            bits.append(Integer.toBinaryString(256 + octet).substring(1));
        }
        return bits.toString();
    }

    private static void filling(String bits, int used, int from) {
        for (int k = used; k % 8 != 0; k++) {
            if (bits.charAt(k) == '1') {
                throw new Bad(from + k / 8);
            }
        }
    }

    private static long number(String bits) {
        return bits.isEmpty() ? 0 : Long.parseUnsignedLong(bits, 2);
    }

    private static List<Long> decimal(List<Integer> bytes, int[] at, int n) {
        int e = next(bytes, at, 0, 14);
        int f = next(bytes, at, 0, e);
        int exceptions = next(bytes, at, 0, n);
        long base = eight(bytes, at);
        int width = next(bytes, at, 0, 53);
        String bits = bitsFrom(bytes, at[0]);
        if (bits.length() < n * width) {
            throw new Bad(bytes.size());
        }
        List<Long> values = new ArrayList<>();
        for (int i = 0; i < n; i++) {
            long r = base + number(bits.substring(i * width, (i + 1) * width));
            values.add(Double.doubleToRawLongBits((double) r * ten(f) * (1.0 / ten(e))));
        }
        filling(bits, n * width, at[0]);
        at[0] += (n * width + 7) / 8;
        int lowest = 0;
        for (int k = exceptions; k > 0; k--) {
            int place = next(bytes, at, lowest, n - k);
            values.set(place, eight(bytes, at));
            lowest = place + 1;
        }
        return values;
    }

    private static int codeBits(int parts) {
        return parts == 1 ? 0 : parts == 2 ? 1 : parts <= 4 ? 2 : 3;
    }

    private static List<Long> split(List<Integer> bytes, int[] at, int n) {
        int h = next(bytes, at, 4, 16);
        int count = next(bytes, at, 1, 8);
        List<Integer> parts = new ArrayList<>();
        for (int j = 0; j < count; j++) {
            parts.add(two(bytes, at, h));
        }
        int exceptions = next(bytes, at, 0, n);
        String bits = bitsFrom(bytes, at[0]);
        int code = codeBits(count);
        int each = code + 64 - h;
        List<Long> values = new ArrayList<>();
        for (int i = 0; i < n; i++) {
            if (bits.length() < i * each + code) {
                throw new Bad(bytes.size());
            }
            int which = (int) number(bits.substring(i * each, i * each + code));
            if (which >= count) {
                throw new Bad(at[0] + (i * each + code - 1) / 8);
            }
            if (bits.length() < (i + 1) * each) {
                throw new Bad(bytes.size());
            }
            values.add((long) parts.get(which) << 64 - h | number(bits.substring(i * each + code, (i + 1) * each)));
        }
        filling(bits, n * each, at[0]);
        at[0] += (n * each + 7) / 8;
        int lowest = 0;
        for (int k = exceptions; k > 0; k--) {
            int place = next(bytes, at, lowest, n - k);
            long high = two(bytes, at, h);
            values.set(place, high << 64 - h | values.get(place) << h >>> h);
            lowest = place + 1;
        }
        return values;
    }

    long peek(int i) {
        Read read = readBlock(tape);
        return read.fault != NONE || i < 0 || i >= read.values.size() ? HIDDEN : read.values.get(i);
    }

    // ---- what FITS ----

    static double ten(int k) {
        return Double.parseDouble("1e" + k);
    }

    static boolean finite(long bits) {
        return Double.isFinite(Double.longBitsToDouble(bits));
    }

    private static final Map<List<Long>, Long> KNOWN = new HashMap<>();

    /** R, or null if it does not FIT. */
    static Long fit(long bits, Pair p) {
        long r = KNOWN.computeIfAbsent(List.of(bits, (long) p.code()), key -> fitNew(bits, p));
        return r == Long.MIN_VALUE ? null : r;
    }

    private static long fitNew(long bits, Pair p) {
        double v = Double.longBitsToDouble(bits);
        if (!finite(bits)) {
            return Long.MIN_VALUE;
        }
        double x = v * ten(p.e) * (1.0 / ten(p.f));
        if (Math.abs(x) >= 2251799813685248.0) {
            return Long.MIN_VALUE;
        }
        long r = (long) (x + 6755399441055744.0 - 6755399441055744.0);
        double again = (double) r * ten(p.f) * (1.0 / ten(p.e));
        return Double.doubleToRawLongBits(again) == bits ? r : Long.MIN_VALUE;
    }

    static List<Pair> pairs(int top) {
        List<Pair> pairs = new ArrayList<>();
        for (int e = 0; e <= top; e++) {
            for (int f = 0; f <= e; f++) {
                pairs.add(new Pair(e, f));
            }
        }
        return pairs;
    }

    static boolean isPair(int e, int f) {
        return e >= 0 && e <= 14 && f >= 0 && f <= e;
    }

    // ---- a COLUMN's BLOCKS ----

    static List<List<Long>> blocks(Column c) {
        List<List<Long>> blocks = new ArrayList<>();
        for (int i = 0; i < c.values.size(); i += c.rule(0)) {
            blocks.add(c.values.subList(i, Math.min(i + c.rule(0), c.values.size())));
        }
        return blocks;
    }

    static List<Long> fitting(List<Long> block, Pair p) {
        List<Long> all = new ArrayList<>();
        for (long v : block) {
            if (fit(v, p) != null) {
                all.add(fit(v, p));
            }
        }
        return all;
    }

    static long base(List<Long> block, Pair p) {
        return fitting(block, p).isEmpty() ? 0 : Collections.min(fitting(block, p));
    }

    static long greatest(List<Long> block, Pair p) {
        return fitting(block, p).isEmpty() ? 0 : Collections.max(fitting(block, p));
    }

    static int width(List<Long> block, Pair p) {
        return 64 - Long.numberOfLeadingZeros(greatest(block, p) - base(block, p));
    }

    static int decimalCost(List<Long> block, Pair p) {
        int exceptions = block.size() - fitting(block, p).size();
        return 15 + (int) Math.ceil(block.size() * width(block, p) / 8.0) + 9 * exceptions;
    }

    static List<Integer> parts(List<Long> block, int h, int most) {
        Map<Integer, Integer> often = new LinkedHashMap<>();
        for (long v : block) {
            often.merge((int) (v >>> 64 - h), 1, Integer::sum);
        }
        List<Integer> parts = new ArrayList<>(often.keySet());
        parts.sort((a, b) -> often.get(b) - often.get(a));
        return parts.subList(0, Math.min(most, parts.size()));
    }

    static int splitCost(Column c, List<Long> block) {
        return writeSplit(c, block).size();
    }

    static List<Long> sample(Column c, List<Long> block) {
        int q = Math.min(block.size(), c.rule(1));
        List<Long> sample = new ArrayList<>();
        for (int i = 0; i < q; i++) {
            sample.add(block.get(i * block.size() / q));
        }
        return sample;
    }

    static int score(Column c, Pair p) {
        int score = 0;
        for (List<Long> block : blocks(c)) {
            score += decimalCost(sample(c, block), p);
        }
        return score;
    }

    static List<Pair> five(Column c) {
        Map<Pair, Integer> scores = new HashMap<>();
        List<Pair> pairs = pairs(c.rule(2));
        for (Pair p : pairs) {
            scores.put(p, score(c, p));
        }
        pairs.sort((a, b) -> scores.get(a) - scores.get(b));
        return pairs.subList(0, Math.min(5, pairs.size()));
    }

    static Pair pair(Column c, List<Long> block, List<Pair> five) {
        Pair best = five.get(0);
        for (Pair p : five) {
            if (decimalCost(sample(c, block), p) < decimalCost(sample(c, block), best)) {
                best = p;
            }
        }
        return best;
    }

    static List<Integer> writeRaw(List<Long> block) {
        List<Integer> out = new ArrayList<>(List.of(0, block.size()));
        for (long v : block) {
            long8(out, v);
        }
        out.add(check(out));
        return out;
    }

    private static void long8(List<Integer> out, long v) {
        for (int shift = 56; shift >= 0; shift -= 8) {
            out.add((int) (v >>> shift & 255));
        }
    }

    private static String bits(long v, int width) {
        String all = String.format("%64s", Long.toBinaryString(v)).replace(' ', '0');
        return all.substring(64 - width);
    }

    private static void pack(List<Integer> out, String bits) {
        String all = bits;
        while (all.length() % 8 != 0) {
            all += "0";
        }
        for (int i = 0; i < all.length(); i += 8) {
            out.add(Integer.parseInt(all.substring(i, i + 8), 2));
        }
    }

    static List<Integer> writeDecimal(List<Long> block, Pair p) {
        int exceptions = block.size() - fitting(block, p).size();
        List<Integer> out = new ArrayList<>(List.of(1, block.size(), p.e, p.f, exceptions));
        long8(out, base(block, p));
        out.add(width(block, p));
        StringBuilder bits = new StringBuilder();
        for (long v : block) {
            Long r = fit(v, p);
            bits.append(bits(r == null ? 0 : r - base(block, p), width(block, p)));
        }
        pack(out, bits.toString());
        for (int i = 0; i < block.size(); i++) {
            if (fit(block.get(i), p) == null) {
                out.add(i);
                long8(out, block.get(i));
            }
        }
        out.add(check(out));
        return out;
    }

    static int splitExceptions(Column c, List<Long> block) {
        int h = c.rule(3);
        List<Integer> parts = parts(block, h, c.rule(4));
        int mask = 0;
        for (int i = 0; i < block.size(); i++) {
            mask += parts.contains((int) (block.get(i) >>> 64 - h)) ? 0 : 1 << i;
        }
        return mask;
    }

    static List<Integer> writeSplit(Column c, List<Long> block) {
        int h = c.rule(3);
        List<Integer> parts = parts(block, h, c.rule(4));
        List<Integer> out = new ArrayList<>(List.of(2, block.size(), h, parts.size()));
        for (int part : parts) {
            out.add(part / 256);
            out.add(part % 256);
        }
        int mask = splitExceptions(c, block);
        out.add(Integer.bitCount(mask));
        StringBuilder bits = new StringBuilder();
        for (long v : block) {
            int code = Math.max(0, parts.indexOf((int) (v >>> 64 - h)));
            bits.append(bits(code, codeBits(parts.size())));
            bits.append(bits(v, 64 - h));
        }
        pack(out, bits.toString());
        for (int i = 0; i < block.size(); i++) {
            if ((mask >> i) % 2 == 1) {
                int part = (int) (block.get(i) >>> 64 - h);
                out.addAll(List.of(i, part / 256, part % 256));
            }
        }
        out.add(check(out));
        return out;
    }

    static List<Integer> writeOut(Column c, List<Long> block, List<Pair> five) {
        List<Integer> best = writeRaw(block);
        List<Integer> decimal = writeDecimal(block, pair(c, block, five));
        best = decimal.size() < best.size() ? decimal : best;
        List<Integer> split = writeSplit(c, block);
        return split.size() < best.size() ? split : best;
    }

    static int exceptions(Column c, List<Long> block, List<Pair> five) {
        int form = writeOut(c, block, five).get(0);
        if (form == 0) {
            return 0;
        }
        if (form == 2) {
            return splitExceptions(c, block);
        }
        int mask = 0;
        for (int i = 0; i < block.size(); i++) {
            mask += fit(block.get(i), pair(c, block, five)) == null ? 1 << i : 0;
        }
        return mask;
    }

    static int costs(Column c) {
        if (c.values.isEmpty()) {
            return 0;
        }
        List<Pair> five = five(c);
        return (int) overBlocks(c, block -> writeOut(c, block, five).size());
    }

    static long overBlocks(Column c, ToLongFunction<List<Long>> what) {
        return blocks(c).stream().mapToLong(what).sum();
    }

    // ---- questions ----

    private boolean place(int i) {
        return column != null && i >= 0 && i < column.values.size();
    }

    private boolean isBlock(int k) {
        return column != null && k >= 0 && k < blocks(column).size();
    }

    int rule(int what) {
        return column == null || what < 0 || what > 4 ? NONE : column.rule(what);
    }

    /** Null: NoSuchElementException. */
    Long value(int i) {
        return place(i) ? column.values.get(i) : null;
    }

    int about(int i, int what) {
        if (!place(i) || what < 0 || what > 6) {
            return HIDDEN;
        }
        long v = column.values.get(i);
        int block = i / column.rule(0);
        List<Pair> ways = new ArrayList<>(pairs(column.rule(2)));
        ways.removeIf(p -> fit(v, p) == null);
        return switch (what) {
            case 0 -> finite(v) ? 1 : 0;
            case 1 -> ways.isEmpty() ? NONE : ways.get(0).e;
            case 2 -> ways.size();
            case 3 -> block;
            case 4 -> (int) (v >>> 64 - column.rule(3));
            case 5 -> exceptions(column, blocks(column).get(block), five(column)) >> i % column.rule(0) & 1;
            default -> column.values.indexOf(v);
        };
    }

    long guise(int i, int e, int f) {
        if (!place(i) || !isPair(e, f)) {
            return HIDDEN;
        }
        Long r = fit(column.values.get(i), new Pair(e, f));
        return r == null ? HIDDEN : r;
    }

    int cost(int k, int e, int f) {
        return isBlock(k) && isPair(e, f) ? decimalCost(blocks(column).get(k), new Pair(e, f)) : NONE;
    }

    int score(int e, int f) {
        return column != null && isPair(e, f) ? score(column, new Pair(e, f)) : NONE;
    }

    int five(int i) {
        if (column == null || column.values.isEmpty() || i < 0 || i >= five(column).size()) {
            return NONE;
        }
        return five(column).get(i).code();
    }

    int block(int k, int what) {
        if (!isBlock(k) || what < 0 || what > 7) {
            return HIDDEN;
        }
        List<Long> block = blocks(column).get(k);
        List<Pair> five = five(column);
        Pair p = pair(column, block, five);
        return switch (what) {
            case 0 -> block.size();
            case 1 -> writeOut(column, block, five).get(0);
            case 2 -> p.code();
            case 3 -> writeOut(column, block, five).size();
            case 4 -> splitCost(column, block);
            case 5 -> exceptions(column, block, five);
            case 6 -> width(block, p);
            default -> parts(block, column.rule(3), column.rule(4)).size();
        };
    }

    long whole(int k, int what) {
        if (!isBlock(k) || what < 0 || what > 2) {
            return HIDDEN;
        }
        List<Long> block = blocks(column).get(k);
        Pair p = pair(column, block, five(column));
        if (what < 2) {
            return what == 0 ? base(block, p) : greatest(block, p);
        }
        List<Long> all = fitting(block, p);
        long usual = base(block, p);
        for (long r : new TreeSet<>(all)) {
            usual = Collections.frequency(all, r) > Collections.frequency(all, usual) ? r : usual;
        }
        return usual;
    }

    int part(int k, int j) {
        if (!isBlock(k)) {
            return NONE;
        }
        List<Integer> parts = parts(blocks(column).get(k), column.rule(3), column.rule(4));
        return j >= 0 && j < parts.size() ? parts.get(j) : NONE;
    }

    int write(int k) {
        if (!isBlock(k)) {
            return NONE;
        }
        written = writeOut(column, blocks(column).get(k), five(column));
        return written.size();
    }

    int octet(int i) {
        return i >= 0 && i < written.size() ? written.get(i) : NONE;
    }

    // ---- ACTS ----

    private int refuse(int why) {
        status[why]++;
        return NONE;
    }

    private void act(List<Long> values, List<Integer> rules, int sort, int number) {
        past.add(column);
        if (past.size() > 40) {
            past.remove(0);
        }
        List<Act> log = new ArrayList<>(column.log);
        log.add(new Act(sort, number, values.size()));
        if (log.size() > 60) {
            log.remove(0);
        }
        column = new Column(values, rules, log);
    }

    private List<Long> values() {
        return new ArrayList<>(column.values);
    }

    int add(long bits) {
        if (column == null) {
            return refuse(0);
        }
        if (column.values.size() == 64) {
            return refuse(3);
        }
        List<Long> values = values();
        values.add(bits);
        act(values, column.rules, 0, values.size() - 1);
        return values.size() - 1;
    }

    int put(int i, long bits) {
        if (!place(i)) {
            return refuse(0);
        }
        List<Long> values = values();
        if (values.set(i, bits) == bits) {
            return refuse(2);
        }
        act(values, column.rules, 1, i);
        return i;
    }

    int drop() {
        if (!place(0)) {
            return refuse(0);
        }
        List<Long> values = values();
        values.remove(values.size() - 1);
        act(values, column.rules, 2, values.size());
        return values.size();
    }

    int swap(int i, int j) {
        if (!place(i) || !place(j)) {
            return refuse(0);
        }
        List<Long> values = values();
        Collections.swap(values, i, j);
        if (values.equals(column.values)) {
            return refuse(2);
        }
        act(values, column.rules, 3, i);
        return i;
    }

    int set(int what, int v) {
        if (column == null || what < 0 || what > 4) {
            return refuse(0);
        }
        if (v < LOW[what] || v > TOP[what]) {
            return refuse(1);
        }
        int was = column.rule(what);
        if (was == v) {
            return refuse(2);
        }
        act(column.values, ruled(what, v), 4, what);
        return was;
    }

    private List<Integer> ruled(int what, int v) {
        List<Integer> rules = new ArrayList<>(column.rules);
        rules.set(what, v);
        return rules;
    }

    int take() {
        if (column == null) {
            return refuse(0);
        }
        Read read = readBlock(tape);
        if (read.fault != NONE) {
            return refuse(4);
        }
        List<Long> values = values();
        values.addAll(read.values);
        if (values.size() > 64) {
            return refuse(3);
        }
        act(values, column.rules, 5, read.values.size());
        tape = new ArrayList<>();
        return read.values.size();
    }

    int status(int what) {
        return what < 0 || what > 4 ? NONE : status[what];
    }

    int undo() {
        if (past.isEmpty()) {
            return NONE;
        }
        column = past.remove(past.size() - 1);
        return past.size();
    }

    int log(int i, int what) {
        if (column == null || i < 0 || i >= column.log.size() || what < 0 || what > 2) {
            return HIDDEN;
        }
        Act act = column.log.get(column.log.size() - 1 - i);
        return what == 0 ? act.sort : what == 1 ? act.number : act.size;
    }

    // ---- more questions ----

    long common(int what) {
        if (!place(0) || what < 0 || what > 1) {
            return HIDDEN;
        }
        long best = column.values.get(0);
        for (long v : column.values) {
            best = Collections.frequency(column.values, v) > Collections.frequency(column.values, best) ? v : best;
        }
        return what == 0 ? best : Collections.frequency(column.values, best);
    }

    long sum(int what) {
        if (column == null || what < 0 || what > 1) {
            return HIDDEN;
        }
        List<Double> numbers = new ArrayList<>();
        for (long v : column.values) {
            if (finite(v)) {
                numbers.add(Double.longBitsToDouble(v));
            }
        }
        if (what == 0) {
            double total = 0;
            for (double number : numbers) {
                total += number;
            }
            return Double.doubleToLongBits(total);
        }
        while (numbers.size() > 1) {
            List<Double> halves = new ArrayList<>();
            for (int i = 0; i < numbers.size(); i += 2) {
                halves.add(i + 1 < numbers.size() ? numbers.get(i) + numbers.get(i + 1) : numbers.get(i));
            }
            numbers = halves;
        }
        return numbers.isEmpty() ? 0 : Double.doubleToLongBits(numbers.get(0));
    }

    int saved(int what, int v) {
        if (column == null || what < 0 || what > 4 || v < LOW[what] || v > TOP[what]) {
            return HIDDEN;
        }
        return costs(column) - costs(new Column(column.values, ruled(what, v), column.log));
    }

    int less(int i) {
        if (!place(i)) {
            return HIDDEN;
        }
        List<Long> values = values();
        values.remove(i);
        return costs(column) - costs(new Column(values, column.rules, column.log));
    }

    int best(int what) {
        if (column == null || what < 0 || what > 4) {
            return NONE;
        }
        int best = LOW[what];
        for (int v = LOW[what]; v <= TOP[what]; v++) {
            best = saved(what, v) > saved(what, best) ? v : best;
        }
        return best;
    }

    int alone(int what) {
        if (!place(0) || what < 0 || what > 1) {
            return NONE;
        }
        Pair best = new Pair(0, 0);
        for (Pair p : pairs(column.rule(2))) {
            best = allDecimal(p) < allDecimal(best) ? p : best;
        }
        return what == 0 ? best.code() : (int) allDecimal(best);
    }

    private long allDecimal(Pair p) {
        return overBlocks(column, block -> decimalCost(block, p));
    }

    int near(int i, int j) {
        return place(i) && place(j) ? Long.bitCount(column.values.get(i) ^ column.values.get(j)) : NONE;
    }

    int most(int what) {
        if (column == null || what < 0 || what > 13) {
            return HIDDEN;
        }
        List<Long> values = column.values;
        List<Long> missing = new ArrayList<>(values);
        missing.removeIf(v -> !Double.isNaN(Double.longBitsToDouble(v)));
        List<Pair> five = five(column);
        Set<Integer> parts = new HashSet<>();
        values.forEach(v -> parts.add((int) (v >>> 64 - column.rule(3))));
        return switch (what) {
            case 0 -> blocks(column).size();
            case 1 -> costs(column);
            case 2 -> (int) overBlocks(column, block -> writeRaw(block).size());
            case 3 -> new HashSet<>(values).size();
            case 4 -> runs(values);
            case 5 -> (int) values.stream().filter(Model::finite).count();
            case 6 -> missing.size();
            case 7 -> new HashSet<>(missing).size();
            case 8 -> Collections.frequency(values, MINUS);
            case 9 -> (int) overBlocks(column, block -> Integer.bitCount(exceptions(column, block, five)));
            case 10 -> parts.size();
            default -> (int) overBlocks(column, block -> writeOut(column, block, five).get(0) == what - 11 ? 1 : 0);
        };
    }

    private static int runs(List<Long> values) {
        int runs = values.isEmpty() ? 0 : 1;
        for (int i = 1; i < values.size(); i++) {
            runs += values.get(i).equals(values.get(i - 1)) ? 0 : 1;
        }
        return runs;
    }

    int image() {
        if (column == null) {
            return NONE;
        }
        kept = column;
        return kept.values.size();
    }

    int back() {
        if (kept == null) {
            return NONE;
        }
        column = kept;
        past = new ArrayList<>();
        return column.values.size();
    }

    int count(int what) {
        return switch (what) {
            case 0 -> column == null ? 0 : column.values.size();
            case 1 -> tape.size();
            case 2 -> written.size();
            case 3 -> column == null ? 0 : column.log.size();
            case 4 -> past.size();
            default -> HIDDEN;
        };
    }

    // ---- for the makers of runs ----

    List<Integer> tapeNow() {
        return tape;
    }

    Column columnNow() {
        return column;
    }

    static String show(int[] numbers) {
        return Arrays.toString(numbers);
    }
}
