import java.util.NoSuchElementException;

/** What the tests share: telling texts and bytes, and counting answers that are not due. */
final class Due {
    private static int wrong = 0;
    private static int asked = 0;
    private static String heading = "";

    private Due() {
    }

    /** Which sentence of the document the answers from here on are due by. */
    static void sentence(String where, String words) {
        heading = where + ", \"" + words + "\": ";
    }

    static void is(String call, long got, long due) {
        asked++;
        if (got != due) {
            wrong++;
            System.out.println(heading + call + " answered " + got + ", due is " + due);
        }
    }

    static void is(String call, boolean got, boolean due) {
        is(call, got ? 1L : 0L, due ? 1L : 0L);
    }

    /** Value i is due to throw NoSuchElementException. */
    static void noValue(GuisePack x, int i) {
        boolean thrown = false;
        try {
            x.value(i);
        } catch (NoSuchElementException e) {
            thrown = true;
        }
        is("value(" + i + ") throws", thrown, true);
    }

    static void bytes(GuisePack x, int... bytes) {
        x.end(0);
        for (int i = 0; i < bytes.length; i += 20) {
            int[] five = new int[5];
            for (int j = 0; j < 20; j++) {
                int octet = i + j < bytes.length ? bytes[i + j] & 255 : 0;
                five[j / 4] = five[j / 4] << 8 | octet;
            }
            x.feed(five[0], five[1], five[2], five[3], five[4]);
        }
        x.end(bytes.length);
    }

    static void sign(GuisePack x, String text) {
        int[] bytes = new int[text.length()];
        for (int i = 0; i < bytes.length; i++) {
            bytes[i] = text.charAt(i);
        }
        bytes(x, bytes);
    }

    static GuisePack told(String text) {
        GuisePack x = new GuisePack();
        sign(x, text);
        int size = x.text();
        is("text of \"" + text + "\" is well made", size >= 0, true);
        return x;
    }

    static String times(int n, String what) {
        return what.repeat(Math.max(n, 0));
    }

    /** A COLUMN without a TEXT's bounds: these bits as they are. */
    static GuisePack of(String rules, long... bits) {
        GuisePack x = told(rules);
        for (long value : bits) {
            x.add(value);
        }
        return x;
    }

    static GuisePack numbers(String rules, double... numbers) {
        long[] bits = new long[numbers.length];
        for (int i = 0; i < bits.length; i++) {
            bits[i] = bits(numbers[i]);
        }
        return of(rules, bits);
    }

    static void values(String what, GuisePack x, long... due) {
        is(what + ": how many VALUES", x.count(0), due.length);
        for (int i = 0; i < due.length && i < x.count(0); i++) {
            is(what + ": value(" + i + ")", x.value(i), due[i]);
        }
    }

    static void fault(String text, int due) {
        GuisePack x = new GuisePack();
        sign(x, text);
        is("fault(0) of \"" + text + "\"", x.fault(0), due);
        is("text() of \"" + text + "\" is refused", x.text() == GuisePack.NONE, due != GuisePack.NONE);
        is("the TAPE's length behind text() of \"" + text + "\"", x.count(1), due == GuisePack.NONE ? 0 : text.length());
    }

    /** These bytes and their CHECK behind them. */
    static int[] checked(int... bytes) {
        int[] all = java.util.Arrays.copyOf(bytes, bytes.length + 1);
        int check = 7;
        for (int octet : bytes) {
            check = (check * 31 + (octet & 255)) % 251;
        }
        all[bytes.length] = check;
        return all;
    }

    static int[] joined(int[]... rows) {
        int[] all = new int[0];
        for (int[] row : rows) {
            int from = all.length;
            all = java.util.Arrays.copyOf(all, from + row.length);
            System.arraycopy(row, 0, all, from, row.length);
        }
        return all;
    }

    static int[] row(int... bytes) {
        return bytes;
    }

    static int[] eight(long number) {
        int[] bytes = new int[8];
        for (int i = 0; i < 8; i++) {
            bytes[i] = (int) (number >>> 56 - 8 * i) & 255;
        }
        return bytes;
    }

    static void blockFault(int due, int... bytes) {
        GuisePack x = new GuisePack();
        bytes(x, bytes);
        is("fault(1) of " + java.util.Arrays.toString(bytes), x.fault(1), due);
        is("peek(0) of " + java.util.Arrays.toString(bytes) + " is hidden",
            x.peek(0) == GuisePack.HIDDEN, due != GuisePack.NONE);
    }

    static int[] written(GuisePack x, int block) {
        int[] bytes = new int[Math.max(x.write(block), 0)];
        for (int i = 0; i < bytes.length; i++) {
            bytes[i] = x.octet(i);
        }
        return bytes;
    }

    static void rows(String call, int[] got, int... due) {
        asked++;
        if (!java.util.Arrays.equals(got, due)) {
            wrong++;
            System.out.println(heading + call + " answered " + java.util.Arrays.toString(got)
                + ", due is " + java.util.Arrays.toString(due));
        }
    }

    static long bits(double number) {
        return Double.doubleToRawLongBits(number);
    }

    static void finish() {
        System.out.println(wrong == 0 ? "all " + asked + " answers are as due" : wrong + " answers are not as due");
        if (wrong != 0) {
            System.exit(1);
        }
    }
}
