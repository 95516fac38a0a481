import java.util.Arrays;

/** The sentences on BLOCKS as bytes, each by itself: "Terms", promises 4, 16 to 18, 24. */
public final class BlockSentencesTest {
    private static final int NONE = GuisePack.NONE;
    private static final int HIDDEN = GuisePack.HIDDEN;
    private static final long MISSING = 0x7ff8000000000000L;

    public static void main(String[] args) {
        forms();
        howManyValues();
        rawValues();
        decimalPairs();
        decimalExceptionCounts();
        decimalBase();
        decimalWidths();
        decimalFilling();
        decimalPlaces();
        splitHigh();
        splitParts();
        splitPartBytes();
        splitExceptionCounts();
        splitCodes();
        splitFilling();
        splitPlaces();
        splitExceptionParts();
        checks();
        tooEarlyAnEnd();
        checksTooEarly();
        behindTheCheck();
        peekPlaces();
        takenDecimals();
        takenSplits();
        thereAndBack();
        Due.finish();
    }

    // ---- makers of bytes ----

    private static int[] raw(int n) {
        int[] bytes = Due.row(0, n);
        for (int i = 0; i < n; i++) {
            bytes = Due.joined(bytes, Due.eight(i));
        }
        return bytes;
    }

    private static int[] decimal(int n, int e, int f, int exceptions, long base, int width, int... rest) {
        return Due.joined(Due.row(1, n, e, f, exceptions), Due.eight(base), Due.row(width), rest);
    }

    private static int[] packed(String bits) {
        String all = bits + Due.times((8 - bits.length() % 8) % 8, "0");
        int[] bytes = new int[all.length() / 8];
        for (int i = 0; i < bytes.length; i++) {
            bytes[i] = Integer.parseInt(all.substring(8 * i, 8 * i + 8), 2);
        }
        return bytes;
    }

    private static String bits(long number, int width) {
        StringBuilder bits = new StringBuilder();
        for (int k = width - 1; k >= 0; k--) {
            bits.append((number >>> k & 1) == 1 ? '1' : '0');
        }
        return bits.toString();
    }

    private static int codeBits(int parts) {
        int[] bits = {0, 0, 1, 2, 2, 3, 3, 3, 3};
        return bits[parts];
    }

    /** Ahead of the VALUES' bits; the PARTS are 0, 1, 2 .. */
    private static int[] splitHead(int n, int h, int parts, int exceptions) {
        int[] bytes = Due.row(2, n, h, parts);
        for (int j = 0; j < parts; j++) {
            bytes = Due.joined(bytes, Due.row(0, j));
        }
        return Due.joined(bytes, Due.row(exceptions));
    }

    /** All of CODE 0 and LOW bits 0. */
    private static int[] split(int n, int h, int parts, int exceptions) {
        int bits = n * (codeBits(parts) + 64 - h);
        return Due.joined(splitHead(n, h, parts, exceptions), new int[(bits + 7) / 8]);
    }

    private static void wellMade(int... bytes) {
        Due.blockFault(NONE, Due.checked(bytes));
    }

    /** Wrong at this byte: with a CHECK, without all that comes behind it, but not ahead of it. */
    private static void wrongAt(int at, int... bytes) {
        Due.blockFault(at, Due.checked(bytes));
        Due.blockFault(at, Arrays.copyOf(bytes, at + 1));
        Due.blockFault(at, Arrays.copyOf(bytes, at));
    }

    private static int[] with(int[] bytes, int at, int octet) {
        int[] other = bytes.clone();
        other[at] = octet;
        return other;
    }

    // ---- the first bytes ----

    private static void forms() {
        Due.sentence("Terms", "A BLOCK is bytes: the FORM (0 .. 2)");
        Due.blockFault(0);
        for (int form = 0; form < 256; form++) {
            Due.blockFault(form <= 2 ? 1 : 0, form);
            Due.blockFault(form <= 2 ? 2 : 0, form, 1);
        }
    }

    private static void howManyValues() {
        Due.sentence("Terms", "how many VALUES (1 .. 16)");
        for (int form = 0; form <= 2; form++) {
            for (int n = 0; n < 256; n++) {
                Due.blockFault(n >= 1 && n <= 16 ? 2 : 1, form, n);
            }
        }
        for (int n = 1; n <= 16; n++) {
            wellMade(raw(n));
            wellMade(decimal(n, 0, 0, 0, 0, 0));
            wellMade(split(n, 12, 4, 0));
        }
        wrongAt(1, Due.joined(Due.row(0, 0)));
        wrongAt(1, raw(17));
    }

    private static void rawValues() {
        Due.sentence("Terms", "of FORM 0 (RAW): eight bytes for each VALUE, its bits, the first ones first");
        GuisePack x = new GuisePack();
        Due.bytes(x, Due.checked(0, 2, 1, 2, 3, 4, 5, 6, 7, 8, 255, 254, 253, 252, 251, 250, 249, 248));
        Due.is("peek(0)", x.peek(0), 0x0102030405060708L);
        Due.is("peek(1)", x.peek(1), 0xfffefdfcfbfaf9f8L);
        for (int n = 1; n <= 16; n++) {
            Due.blockFault(1 + 8 * n + 1, Arrays.copyOf(raw(n), 1 + 8 * n + 1));
            Due.blockFault(2 + 8 * n, raw(n));
        }
    }

    // ---- DECIMAL ----

    private static void decimalPairs() {
        Due.sentence("Terms", "of FORM 1 (DECIMAL): e (0 .. 14), f (0 .. e)");
        for (int e = 0; e < 256; e++) {
            Due.blockFault(e <= 14 ? 3 : 2, 1, 1, e);
            for (int f = 0; e <= 14 && f <= 16; f++) {
                Due.blockFault(f <= e ? 4 : 3, 1, 1, e, f);
            }
            if (e <= 14) {
                wellMade(decimal(1, e, 0, 0, 1, 0));
                wellMade(decimal(1, e, e, 0, 1, 0));
                wrongAt(3, decimal(1, e, e + 1, 0, 1, 0));
                wrongAt(3, decimal(1, e, 255, 0, 1, 0));
            }
        }
        wrongAt(2, decimal(1, 15, 0, 0, 1, 0));
    }

    private static void decimalExceptionCounts() {
        Due.sentence("Terms", "how many EXCEPTIONS (0 .. as many as VALUES)");
        for (int n = 1; n <= 16; n++) {
            for (int many = 0; many <= 18; many++) {
                Due.blockFault(many <= n ? 5 : 4, 1, n, 1, 0, many);
            }
            int[] all = decimal(n, 1, 0, n, 0, 0);
            for (int i = 0; i < n; i++) {
                all = Due.joined(all, Due.row(i), Due.eight(i));
            }
            wellMade(all);
            wrongAt(4, decimal(n, 1, 0, n + 1, 0, 0));
        }
        Due.blockFault(4, 1, 16, 1, 0, 255);
    }

    private static void decimalBase() {
        Due.sentence("Terms", "BASE (eight bytes, a whole number of 64 bits)");
        long[] bases = {0, 1, -1, 255, 256, Long.MAX_VALUE, Long.MIN_VALUE, 0x0102030405060708L, 1L << 53, (1L << 53) + 1};
        for (long base : bases) {
            GuisePack x = new GuisePack();
            Due.bytes(x, Due.checked(decimal(1, 0, 0, 0, base, 0)));
            Due.is("fault(1) of BASE " + base, x.fault(1), NONE);
            Due.is("peek(0) of BASE " + base, x.peek(0), Due.bits((double) base));
        }
        for (int many = 5; many <= 13; many++) {
            Due.blockFault(many, Arrays.copyOf(decimal(1, 0, 0, 0, -1, 0), many));
        }
    }

    private static void decimalWidths() {
        Due.sentence("Terms", "WIDTH (0 .. 53), for each VALUE so many bits, the first one first");
        for (int width = 0; width < 256; width++) {
            int[] head = decimal(3, 0, 0, 0, 0, width);
            if (width > 53) {
                wrongAt(13, head);
            } else {
                int bytes = (3 * width + 7) / 8;
                wellMade(Due.joined(head, new int[bytes]));
                for (int fewer = 0; fewer < bytes; fewer++) {
                    Due.blockFault(14 + fewer, Due.joined(head, new int[fewer]));
                }
                String bits = bits(width == 0 ? 0 : 1L << width - 1, width) + bits(0, width) + bits(width == 0 ? 0 : 1, width);
                GuisePack x = new GuisePack();
                Due.bytes(x, Due.checked(Due.joined(head, packed(bits))));
                Due.is("peek(0) of WIDTH " + width, x.peek(0), Due.bits(width == 0 ? 0 : (double) (1L << width - 1)));
                Due.is("peek(1) of WIDTH " + width, x.peek(1), 0);
                Due.is("peek(2) of WIDTH " + width, x.peek(2), Due.bits(width == 0 ? 0 : 1));
            }
        }
    }

    private static void decimalFilling() {
        Due.sentence("Terms", "filled up with 0 to whole bytes; FAULT: bits of filling at their byte");
        for (int n = 1; n <= 16; n++) {
            for (int width = 1; width <= 53; width += n < 4 ? 1 : 7) {
                int used = n * width;
                int[] full = packed(Due.times(used, "1"));
                wellMade(decimal(n, 3, 1, 0, 0, width, full));
                for (int k = used; k % 8 != 0; k++) {
                    int[] spoilt = with(full, k / 8, full[k / 8] | 128 >> k % 8);
                    wrongAt(14 + k / 8, decimal(n, 3, 1, 0, 0, width, spoilt));
                }
            }
        }
    }

    /** The EXCEPTIONS of n VALUES at these places, each of so many bytes behind the place. */
    private static int[] exceptions(int bytes, int... places) {
        int[] all = new int[0];
        for (int place : places) {
            all = Due.joined(all, Due.row(place), new int[bytes]);
        }
        return all;
    }

    private static int[] from(int first, int many) {
        int[] places = new int[many];
        for (int k = 0; k < many; k++) {
            places[k] = first + k;
        }
        return places;
    }

    /** Places that rise and leave places; each in turn too small, then too great. */
    private static void places(int n, int many, int[] head, int bytes) {
        int each = 1 + bytes;
        for (int first = 0; first <= n - many; first++) {
            int[] good = from(first, many);
            wellMade(Due.joined(head, exceptions(bytes, good)));
            for (int k = 0; k < many; k++) {
                int at = head.length + each * k;
                if (k > 0) {
                    wrongAt(at, Due.joined(head, exceptions(bytes, with(good, k, good[k] - 1))));
                    wrongAt(at, Due.joined(head, exceptions(bytes, with(good, k, 0))));
                }
                wrongAt(at, Due.joined(head, exceptions(bytes, with(good, k, n - many + k + 1))));
                wrongAt(at, Due.joined(head, exceptions(bytes, with(good, k, 255))));
            }
        }
        int[] late = from(n - many, many);
        late[0] = 0;
        wellMade(Due.joined(head, exceptions(bytes, late)));
        wrongAt(head.length + each * many - each, Due.joined(head, exceptions(bytes, with(late, many - 1, n))));
    }

    private static void decimalPlaces() {
        Due.sentence("Terms",
            "for each EXCEPTION its place (rising; 0 on; such that as many as are to come have places, too) and eight bytes");
        for (int n = 1; n <= 16; n += n < 4 ? 1 : 4) {
            for (int many = 1; many <= n; many++) {
                places(n, many, decimal(n, 1, 0, many, 0, 0), 8);
            }
        }
        places(16, 16, decimal(16, 1, 0, 16, 0, 0), 8);
        GuisePack x = new GuisePack();
        Due.bytes(x, Due.checked(Due.joined(decimal(3, 1, 0, 2, 5, 0), Due.row(0), Due.eight(MISSING), Due.row(2), Due.eight(-7))));
        Due.is("peek(0)", x.peek(0), MISSING);
        Due.is("peek(1)", x.peek(1), Due.bits(0.5));
        Due.is("peek(2)", x.peek(2), -7);
        // The bits at an EXCEPTION's place need not be 0.
        Due.bytes(x, Due.checked(Due.joined(decimal(1, 1, 0, 1, 5, 8, 255), Due.row(0), Due.eight(9))));
        Due.is("peek(0) of an EXCEPTION with bits", x.peek(0), 9);
    }

    // ---- SPLIT ----

    private static void splitHigh() {
        Due.sentence("Terms", "of FORM 2 (SPLIT): h (4 .. 16)");
        for (int h = 0; h < 256; h++) {
            Due.blockFault(h >= 4 && h <= 16 ? 3 : 2, 2, 1, h);
        }
        for (int h = 4; h <= 16; h++) {
            wellMade(split(1, h, 1, 0));
            wellMade(split(16, h, 8, 0));
        }
    }

    private static void splitParts() {
        Due.sentence("Terms", "how many PARTS (1 .. 8), two bytes for each");
        for (int parts = 0; parts < 256; parts++) {
            Due.blockFault(parts >= 1 && parts <= 8 ? 4 : 3, 2, 1, 12, parts);
        }
        for (int parts = 1; parts <= 8; parts++) {
            int[] good = split(2, 12, parts, 0);
            wellMade(good);
            for (int many = 4; many <= 4 + 2 * parts; many++) {
                Due.blockFault(many, Arrays.copyOf(good, many));
            }
        }
        // PARTS need not be unlike.
        wellMade(with(split(1, 12, 2, 0), 7, 0));
    }

    private static void splitPartBytes() {
        Due.sentence("Terms", "(below 2 to the h); FAULT: two bytes too great at the first one that can't be");
        for (int h = 4; h <= 16; h++) {
            int greatest = (1 << h) - 1;
            int[] good = split(1, h, 2, 0);
            int[] last = with(with(good, 6, greatest >> 8), 7, greatest & 255);
            wellMade(last);
            GuisePack x = new GuisePack();
            int[] coded = last.clone();
            coded[9] = 128;
            Due.bytes(x, Due.checked(coded));
            Due.is("peek(0) of the greatest PART, h " + h, x.peek(0), -1L << 64 - h);
            if (h < 16) {
                int above = 1 << h;
                int at = h < 8 ? 7 : 6;
                wrongAt(at, with(with(good, 6, above >> 8), 7, above & 255));
                wrongAt(at, with(with(good, 6, above >> 8), 7, 255));
                wrongAt(6, with(good, 6, (greatest >> 8) + 1));
                wrongAt(6, with(with(good, 6, 255), 7, 255));
                wrongAt(at - 2, with(with(good, 4, above >> 8), 5, above & 255));
            }
            if (h < 8) {
                wrongAt(7, with(good, 7, 255));
                wrongAt(7, with(split(16, h, 2, 0), 7, 1 << h));
                wrongAt(7, with(split(1 << h > 16 ? 16 : 1 << h, h, 2, 0), 7, 1 << h));
                wrongAt(5, with(split(16, h, 1, 0), 5, 1 << h));
            } else {
                wellMade(with(good, 7, 255));
            }
        }
    }

    private static void splitExceptionCounts() {
        Due.sentence("Terms", "how many EXCEPTIONS");
        for (int n = 1; n <= 16; n++) {
            for (int many = 0; many <= 18; many++) {
                int[] head = splitHead(n, 16, 1, many);
                Due.blockFault(many <= n ? head.length : head.length - 1, head);
            }
            int[] all = Due.joined(split(n, 16, 1, n), exceptions(2, from(0, n)));
            wellMade(all);
        }
        Due.blockFault(6, splitHead(16, 16, 1, 255));
    }

    private static void splitCodes() {
        Due.sentence("Terms", "CODE: as many bits as the number of PARTS less 1 has; FAULT: a CODE that no PART has at the byte with its last bit");
        int[] highs = {4, 5, 11, 12, 15, 16};
        for (int h : highs) {
            for (int parts = 1; parts <= 8; parts++) {
                for (int n = 1; n <= 16; n += 5) {
                    codesOf(h, parts, n);
                }
            }
        }
    }

    private static void codesOf(int h, int parts, int n) {
        int width = codeBits(parts);
        int each = width + 64 - h;
        int[] head = splitHead(n, h, parts, 0);
        for (int i = 0; i < n; i++) {
            for (int code = 0; code < 1 << width; code++) {
                String bits = Due.times(i * each, "0") + bits(code, width);
                int last = head.length + (i * each + width - 1) / 8;
                String filled = bits + Due.times(n * each - bits.length(), "0");
                int[] all = Due.joined(head, packed(filled));
                if (code < parts) {
                    GuisePack x = new GuisePack();
                    Due.bytes(x, Due.checked(all));
                    Due.is("peek(" + i + ") of CODE " + code, x.peek(i), (long) code << 64 - h);
                } else {
                    wrongAt(last, all);
                }
            }
        }
    }

    private static void splitFilling() {
        Due.sentence("Terms", "64 less h LOW bits, filled up likewise; FAULT: bits of filling at their byte");
        for (int h = 4; h <= 16; h++) {
            for (int n = 1; n <= 3; n++) {
                for (int parts = 1; parts <= 8; parts++) {
                    int width = codeBits(parts);
                    String bits = Due.times(n, bits(parts - 1, width) + Due.times(64 - h, "1"));
                    int[] head = splitHead(n, h, parts, 0);
                    int[] full = packed(bits);
                    wellMade(Due.joined(head, full));
                    for (int k = bits.length(); k % 8 != 0; k++) {
                        int[] spoilt = with(full, k / 8, full[k / 8] | 128 >> k % 8);
                        wrongAt(head.length + k / 8, Due.joined(head, spoilt));
                    }
                }
            }
        }
    }

    private static void splitPlaces() {
        Due.sentence("Terms", "for each EXCEPTION its place (rising) and two bytes");
        for (int n = 1; n <= 16; n += n < 4 ? 1 : 4) {
            for (int many = 1; many <= n; many++) {
                places(n, many, split(n, 16, 1, many), 2);
            }
        }
        places(16, 16, split(16, 16, 1, 16), 2);
    }

    private static void splitExceptionParts() {
        Due.sentence("Terms", "for each EXCEPTION its place (rising) and two bytes (below 2 to the h)");
        for (int h = 4; h <= 16; h++) {
            int greatest = (1 << h) - 1;
            int[] head = split(1, h, 1, 1);
            int at = head.length + 1;
            int[] good = Due.joined(head, Due.row(0, greatest >> 8, greatest & 255));
            wellMade(good);
            GuisePack x = new GuisePack();
            Due.bytes(x, Due.checked(good));
            Due.is("peek(0) of the greatest PART, h " + h, x.peek(0), -1L << 64 - h);
            if (h < 16) {
                int above = 1 << h;
                wrongAt(h < 8 ? at + 1 : at, Due.joined(head, Due.row(0, above >> 8, above & 255)));
                wrongAt(at, Due.joined(head, Due.row(0, 255, 255)));
            }
            Due.blockFault(at, Arrays.copyOf(good, at));
            Due.blockFault(at + 1, Arrays.copyOf(good, at + 1));
        }
    }

    // ---- CHECK and the end ----

    private static void checks() {
        Due.sentence("Terms", "last a CHECK: c, 7 at first, becomes 31 c and the byte, modulo 251, byte by byte");
        // By hand: 7, 217 and 0: 217, 6727 and 1: 202, 6262 and eight bytes of 0: 238, 99, 57, 10, 59, 72, 224, 167.
        Due.blockFault(NONE, 0, 1, 0, 0, 0, 0, 0, 0, 0, 0, 167);
        for (int check = 0; check < 256; check++) {
            Due.blockFault(check == 167 ? NONE : 10, 0, 1, 0, 0, 0, 0, 0, 0, 0, 0, check);
        }
        // A CHECK is below 251: one more by 251 is wrong.
        int[] zeros = Due.checked(0, 1, 0, 0, 0, 0, 0, 0, 0, 84);
        Due.is("a CHECK of 0", zeros[10], 0);
        Due.blockFault(NONE, zeros);
        Due.blockFault(10, with(zeros, 10, 251));
        // All bytes count, the first and the last, those above 127 as they are.
        int[] good = Due.checked(Due.joined(decimal(2, 3, 1, 1, -3, 9, 255, 255, 192), Due.row(1), Due.eight(-1)));
        Due.blockFault(NONE, good);
        for (int i = 5; i < good.length - 1; i++) {
            int[] other = with(good, i, i == 13 ? 10 : i == 16 ? 128 : i == 17 ? 0 : good[i] ^ 1);
            Due.blockFault(good.length - 1, other);
        }
    }

    private static void tooEarlyAnEnd() {
        Due.sentence("Terms", "FAULT: the length, if it ends too early");
        int[][] blocks = {raw(1), raw(16),
            Due.joined(decimal(5, 14, 7, 2, -9, 37, packed(Due.times(185, "1"))), exceptions(8, 1, 4)),
            decimal(16, 14, 14, 0, 9, 53, new int[106]),
            Due.joined(split(5, 7, 5, 3), exceptions(2, 0, 2, 4)), split(16, 4, 8, 0), split(1, 16, 1, 0),
            Due.joined(splitHead(9, 12, 5, 0), packed(Due.times(9, "100" + Due.times(52, "1")))),
            Due.joined(splitHead(9, 13, 3, 0), packed(Due.times(9, "10" + Due.times(51, "1"))))};
        for (int[] block : blocks) {
            wellMade(block);
            for (int many = 0; many <= block.length; many++) {
                Due.blockFault(many, Arrays.copyOf(block, many));
            }
        }
    }

    /** A start of a BLOCK and a CHECK of it: wrong there, if no such byte can stand there, else too short. */
    private static void checkTooEarly(int lowest, int highest, int... start) {
        int[] bytes = Due.checked(start);
        int check = bytes[start.length];
        boolean can = check >= lowest && check <= highest;
        Due.blockFault(can ? bytes.length : start.length, bytes);
    }

    private static void checksTooEarly() {
        Due.sentence("Terms", "last a CHECK (one that stands too early is none)");
        for (int n = 1; n <= 16; n++) {
            checkTooEarly(0, 255, 0, n);
            checkTooEarly(0, 14, 1, n);
            checkTooEarly(4, 16, 2, n);
            for (int e = 0; e <= 14; e++) {
                checkTooEarly(0, e, 1, n, e);
                for (int f = 0; f <= e; f++) {
                    checkTooEarly(0, n, 1, n, e, f);
                    checkTooEarly(0, 53, Due.joined(Due.row(1, n, e, f, 0), Due.eight(31L * n * f + e)));
                }
            }
            for (int h = 4; h <= 16; h++) {
                checkTooEarly(1, 8, 2, n, h);
                for (int part = 0; part < 1 << Math.min(h, 8); part += 3) {
                    checkTooEarly(0, h < 8 ? 0 : (1 << h - 8) - 1, 2, n, h, 1 + part % 8);
                    checkTooEarly(0, n, 2, n, h, 1, 0, part);
                }
            }
        }
        for (int h = 4; h <= 16; h++) {
            for (int low = 0; low < 1 << Math.min(h, 8); low++) {
                int[] head = split(1, h, 1, 1);
                head[5] = low;
                checkTooEarly(0, 0, head);
                checkTooEarly(0, h < 8 ? 0 : (1 << h - 8) - 1, Due.joined(head, Due.row(0)));
                checkTooEarly(0, h < 8 ? (1 << h) - 1 : 255, Due.joined(head, Due.row(0, 0)));
            }
        }
        for (int base = 0; base < 300; base++) {
            int[] head = decimal(2, 0, 0, 1, base, 0);
            checkTooEarly(0, 1, head);
            checkTooEarly(0, 255, Due.joined(head, Due.row(1)));
        }
    }

    private static void behindTheCheck() {
        Due.sentence("Terms", "FAULT: the first byte at which no such BLOCK can go on (what comes behind the CHECK)");
        int[][] blocks = {raw(1), decimal(1, 0, 0, 0, 0, 0), split(1, 16, 1, 0)};
        for (int[] block : blocks) {
            int[] good = Due.checked(block);
            for (int more : new int[] {0, 1, 7, 32, 255}) {
                Due.blockFault(good.length, Due.joined(good, Due.row(more)));
                Due.blockFault(good.length, Due.joined(good, Due.row(more, more)));
            }
            Due.blockFault(good.length, Due.joined(good, good));
        }
    }

    // ---- Promise 18 ----

    private static void peekPlaces() {
        Due.sentence("Promise 18", "The bits of the i-th VALUE of the BLOCK on the TAPE. HIDDEN: a FAULT, no such one.");
        GuisePack x = new GuisePack();
        Due.is("peek(0) of nothing", x.peek(0), HIDDEN);
        for (int n = 1; n <= 16; n++) {
            int[] good = Due.checked(raw(n));
            Due.bytes(x, good);
            for (int i = 0; i < n; i++) {
                Due.is("peek(" + i + ") of " + n, x.peek(i), i);
            }
            int[] places = {-1, n, n + 1, 16, Integer.MAX_VALUE, Integer.MIN_VALUE};
            for (int place : places) {
                Due.is("peek(" + place + ") of " + n, x.peek(place), HIDDEN);
            }
            // A FAULT behind the VALUE hides it, too.
            x.end(good.length - 1);
            Due.is("peek(0) without CHECK", x.peek(0), HIDDEN);
            Due.bytes(x, Due.joined(good, Due.row(0)));
            Due.is("peek(0) with a byte more", x.peek(0), HIDDEN);
        }
        Due.bytes(x, Due.checked(raw(16)));
        x.peek(3);
        Due.bytes(x, Due.checked(raw(2)));
        Due.is("peek(3) of a shorter BLOCK then", x.peek(3), HIDDEN);
        Due.is("it needs no COLUMN", x.peek(1), 1);
        Due.is("the TAPE stays", x.fault(1), NONE);
    }

    // ---- Paragraph 2: TAKEN ----

    private static void taken(String what, int[] bytes, long... due) {
        GuisePack x = Due.told("s");
        Due.bytes(x, Due.checked(bytes));
        for (int i = 0; i < due.length; i++) {
            Due.is(what + ": peek(" + i + ")", x.peek(i), due[i]);
        }
        Due.is(what + ": take", x.take(), due.length);
        Due.values(what, x, due);
    }

    private static void takenDecimals() {
        Due.sentence("Paragraph 2", "of FORM 1: R is BASE and its bits, going round, R times TEN of f times TENTH of e");
        taken("R 125 by 2, 0", decimal(1, 2, 0, 0, 125, 0), Due.bits(1.25));
        taken("R 125 by 2, 1", decimal(1, 2, 1, 0, 125, 0), Due.bits(12.5));
        taken("R 3 by 6, 5: from the left on", decimal(1, 6, 5, 0, 3, 0), Due.bits(300000.0 * (1.0 / 1000000.0)));
        taken("R 3 by 2, 1: from the left on", decimal(1, 2, 1, 0, 3, 0), Due.bits(0.3));
        taken("R 3 by 1, 0: by TENTH, not by TEN", decimal(1, 1, 0, 0, 3, 0), 0x3fd3333333333334L);
        taken("R -5 by 1, 0", decimal(2, 1, 0, 0, -5, 3, 0b11100000), Due.bits(2 * (1.0 / 10.0)), Due.bits(-5 * (1.0 / 10.0)));
        taken("R 0", decimal(2, 14, 14, 0, -1, 1, 0b10000000), 0, Due.bits(-1e14 * (1.0 / 1e14)));
        taken("goes round upwards", decimal(2, 0, 0, 0, Long.MAX_VALUE, 1, 0b01000000),
            0x43e0000000000000L, 0xc3e0000000000000L);
        long most = (1L << 53) - 1;
        int[] ones = packed(Due.times(53, "1"));
        taken("goes round far", decimal(1, 0, 0, 0, Long.MAX_VALUE, 53, ones), Due.bits((double) (Long.MAX_VALUE + most)));
        taken("from the least on", decimal(1, 0, 0, 0, Long.MIN_VALUE, 53, ones), Due.bits((double) (Long.MIN_VALUE + most)));
        taken("from -1 to above 0", decimal(1, 0, 0, 0, -1, 53, ones), Due.bits((double) (most - 1)));
        Due.sentence("Paragraph 2", "R as a number in double precision first");
        long odd = (1L << 53) + 1;
        taken("2 to the 53 and 1", decimal(1, 14, 14, 0, odd, 0), Due.bits((double) odd * 1e14 * (1.0 / 1e14)));
        taken("rounded to the even one", decimal(2, 0, 0, 0, odd, 2, 0b00100000),
            0x4340000000000000L, 0x4340000000000002L);
        taken("a great one", decimal(1, 0, 0, 0, 0x7fffffffffffffffL, 0), 0x43e0000000000000L);
        taken("a great one by 14, 14", decimal(1, 14, 14, 0, Long.MIN_VALUE, 0),
            Due.bits(-9223372036854775808.0 * 1e14 * (1.0 / 1e14)));
        Due.sentence("Paragraph 2", "EXCEPTIONS as told");
        taken("EXCEPTIONS of DECIMAL", Due.joined(decimal(3, 0, 0, 2, 4, 2, 0b01110000),
            Due.row(0), Due.eight(MISSING + 5), Due.row(1), Due.eight(Long.MIN_VALUE)),
            MISSING + 5, Long.MIN_VALUE, Due.bits(4));
    }

    private static void takenSplits() {
        Due.sentence("Paragraph 2", "of FORM 2: PART and LOW; EXCEPTIONS as told");
        for (int h = 4; h <= 16; h++) {
            long ones = (1L << 64 - h) - 1;
            String bits = "1" + bits(0, 64 - h) + "0" + bits(ones, 64 - h) + "1" + bits(5, 64 - h);
            int[] bytes = Due.joined(splitHead(3, h, 2, 1), packed(bits), Due.row(1, 0, 9));
            long part = 1L << 64 - h;
            taken("h " + h, bytes, part, 9L << 64 - h | ones, part | 5);
        }
        // An EXCEPTION's CODE may name a PART: the PART told behind stands for all of it, LOW stays.
        for (int h = 4; h <= 16; h++) {
            String bits = "11" + bits(-1L, 64 - h) + "11" + bits(0, 64 - h);
            int[] head = with(splitHead(2, h, 4, 2), 11, 15);
            long low = (1L << 64 - h) - 1;
            taken("CODE of an EXCEPTION, h " + h, Due.joined(head, packed(bits), Due.row(0, 0, 0, 1, 0, 6)), low, 6L << 64 - h);
        }
        // With one PART there are no bits of CODE.
        taken("one PART", Due.joined(Due.row(2, 2, 16, 1, 0x40, 0x59, 0), new int[11], Due.row(9)),
            0x4059000000000000L, 0x4059000000000009L);
    }

    // ---- Promises 16 to 18, 24: written out and taken again ----

    private static void thereAndBack() {
        Due.sentence("Promises 16 and 24", "A BLOCK is written out in its FORM; a BLOCK is TAKEN");
        String[] rules = {"sb16", "sb2m1", "sb16e14d8l4", "sb5e0d1l16", "sb7m16l8d2"};
        long[] values = {0, Long.MIN_VALUE, MISSING, MISSING + 1, -1, 1, Due.bits(0.1), Due.bits(-12.25), Due.bits(1e14),
            0x7ff0000000000000L, 0xfff0000000000000L, 0x7fefffffffffffffL, Due.bits(7), Due.bits(7.5), Due.bits(8),
            0x4011223344556677L, 0x4011fedcba987654L, 0x4011123456789abcL, Due.bits(3), Due.bits(3), Due.bits(4)};
        for (String rule : rules) {
            GuisePack x = Due.of(rule, values);
            GuisePack y = Due.told("s");
            int blocks = x.most(0);
            for (int k = 0; k < blocks; k++) {
                int[] bytes = Due.written(x, k);
                Due.is(rule + ": how many bytes", bytes.length, x.block(k, 3));
                Due.bytes(y, bytes);
                Due.is(rule + ": fault(1) of what was written", y.fault(1), NONE);
                Due.is(rule + ": take", y.take(), x.block(k, 0));
            }
            Due.values(rule + ": there and back", y, values);
        }
    }
}
