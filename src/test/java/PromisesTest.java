/** For each promise what is due by hand: ordinary inputs, the edges that the document names, wrong inputs. */
public final class PromisesTest {
    private static final int NONE = GuisePack.NONE;
    private static final int HIDDEN = GuisePack.HIDDEN;
    private static final long MISSING = 0x7ff8000000000000L;
    private static final long INFINITE = 0x7ff0000000000000L;
    private static final long MINUS = Long.MIN_VALUE;

    public static void main(String[] args) {
        aNewObject();
        feedAndEnd();
        faultOfClauses();
        faultOfRules();
        faultOfValues();
        faultOfFortyValues();
        faultOfRawBlocks();
        faultOfDecimalBlocks();
        faultOfSplitBlocks();
        text();
        rule();
        value();
        about();
        guise();
        costScoreFive();
        block();
        whole();
        part();
        writeAndOctet();
        peek();
        add();
        put();
        drop();
        swap();
        set();
        take();
        status();
        undo();
        log();
        common();
        sum();
        savedAndBest();
        less();
        alone();
        near();
        most();
        imageAndBack();
        count();
        Due.finish();
    }

    private static String times(int n, String what) {
        return what.repeat(n);
    }

    // Promise 1
    private static void aNewObject() {
        Due.is("NONE", NONE, -1);
        Due.is("HIDDEN", HIDDEN, -1000000);
        GuisePack x = new GuisePack();
        for (int what = 0; what <= 4; what++) {
            Due.is("new: count", x.count(what), 0);
            Due.is("new: status", x.status(what), 0);
            Due.is("new: rule", x.rule(what), NONE);
            Due.is("new: saved", x.saved(what, 4), HIDDEN);
            Due.is("new: best", x.best(what), NONE);
        }
        for (int what = 0; what <= 13; what++) {
            Due.is("new: most", x.most(what), HIDDEN);
        }
        Due.noValue(x, 0);
        Due.is("new: about", x.about(0, 0), HIDDEN);
        Due.is("new: guise", x.guise(0, 0, 0), HIDDEN);
        Due.is("new: cost", x.cost(0, 0, 0), NONE);
        Due.is("new: score", x.score(0, 0), NONE);
        Due.is("new: five", x.five(0), NONE);
        Due.is("new: block", x.block(0, 0), HIDDEN);
        Due.is("new: whole", x.whole(0, 0), HIDDEN);
        Due.is("new: part", x.part(0, 0), NONE);
        Due.is("new: write", x.write(0), NONE);
        Due.is("new: octet", x.octet(0), NONE);
        Due.is("new: peek", x.peek(0), HIDDEN);
        Due.is("new: log", x.log(0, 0), HIDDEN);
        Due.is("new: common", x.common(0), HIDDEN);
        Due.is("new: sum", x.sum(0), HIDDEN);
        Due.is("new: less", x.less(0), HIDDEN);
        Due.is("new: alone", x.alone(0), NONE);
        Due.is("new: near", x.near(0, 0), NONE);
        Due.is("new: image", x.image(), NONE);
        Due.is("new: back", x.back(), NONE);
        Due.is("new: undo", x.undo(), NONE);
        Due.is("new: text", x.text(), NONE);
    }

    // Promises 2 and 3
    private static void feedAndEnd() {
        GuisePack x = new GuisePack();
        Due.is("end(1) of nothing", x.end(1), false);
        Due.is("end(-1)", x.end(-1), false);
        Due.is("end(0) of nothing", x.end(0), true);
        for (int k = 1; k <= 16; k++) {
            Due.is("feed " + k, x.feed(0, -1, k, 0, 0), 20 * k);
        }
        Due.is("feed of a 17th", x.feed(1, 1, 1, 1, 1), NONE);
        Due.is("count(1) of the full TAPE", x.count(1), 320);
        Due.is("end(321)", x.end(321), false);
        Due.is("end(301)", x.end(301), true);
        Due.is("feed to 321", x.feed(1, 1, 1, 1, 1), NONE);
        Due.is("end(300)", x.end(300), true);
        Due.is("feed to 320", x.feed(1, 1, 1, 1, 1), 320);
        Due.is("no STATUS of feed and end", x.status(0) + x.status(1) + x.status(3), 0);
        // The highest byte first; the rest behind end is gone.
        Due.is("end", x.end(0), true);
        x.feed(0x783b3132, 0x33000000, 0, 0, 0);
        Due.is("end(1)", x.end(1), true);
        x.feed(0x31323334, 0, 0, 0, 0);
        Due.is("end(5)", x.end(5), true);
        Due.is("text of x1234", x.text(), 1);
        Due.is("value of x1234", x.value(0), 0x1234);
    }

    // Promise 4
    private static void faultOfClauses() {
        Due.fault("", 0);
        Due.fault(" ", 1);
        Due.fault(";", 0);
        Due.fault("1", NONE);
        Due.fault("1;", 2);
        Due.fault("1; ", 3);
        Due.fault("1;;1", 2);
        Due.fault("s", NONE);
        Due.fault("s;", 2);
        Due.fault("s;1", NONE);
        Due.fault("1;s;2", NONE);
        Due.fault("1;2;s", NONE);
        Due.fault("s;s", 2);
        Due.fault("s;1;s", 4);
        Due.fault("1 ;2", NONE);
        Due.fault("1; 2", NONE);
        Due.fault("1 2", 2);
        Due.fault("1 s", 2);
        Due.fault("q", 0);
        Due.fault("S", 0);
        Due.fault("" + (char) 0, 0);
        Due.fault("1" + (char) 0, 1);
        Due.fault("1" + (char) 9 + ";2", 1);
        Due.fault("" + (char) 233, 0);
        Due.fault("1;" + (char) 0 + "2", 2);
        GuisePack x = new GuisePack();
        Due.is("fault(2)", x.fault(2), -2);
        Due.is("fault(-1)", x.fault(-1), -2);
        Due.is("fault(1) of nothing", x.fault(1), 0);
    }

    private static void faultOfRules() {
        Due.fault("sb2m1e0l4d1", NONE);
        Due.fault("sd8l16e14m16b16", NONE);
        Due.fault("s b 4 m 2 ; 1", NONE);
        Due.fault("sb04", NONE);
        Due.fault("sb", 2);
        Due.fault("sb;", 2);
        Due.fault("sbb", 2);
        Due.fault("sb1", 2);
        Due.fault("sb1;", 2);
        Due.fault("sb1 6", 2);
        Due.fault("sb01", 3);
        Due.fault("sb00;1", 3);
        Due.fault("sb16", NONE);
        Due.fault("sb17", 3);
        Due.fault("sm0", 2);
        Due.fault("sm17", 3);
        Due.fault("se15", 3);
        Due.fault("sl3", 2);
        Due.fault("sl17", 3);
        Due.fault("sd0", 2);
        Due.fault("sd9", 2);
        Due.fault("sb123", 4);
        Due.fault("sb993", 4);
        Due.fault("sb003;", 4);
        Due.fault("sb1 2", 2);
        Due.fault("sb4 2", 4);
        Due.fault("sb4b", 3);
        Due.fault("sb4 m2b", 6);
        Due.fault("sb4m4e4l4d4b4", 11);
        Due.fault("sx4", 1);
        Due.fault("s4", 1);
        Due.fault("sb-4", 2);
        Due.fault("sb4.0", 3);
    }

    private static void faultOfValues() {
        Due.fault("i", NONE);
        Due.fault("-i;n;-n", NONE);
        Due.fault("ii", 1);
        Due.fault("-", 1);
        Due.fault("- 1", 1);
        Due.fault("--1", 1);
        Due.fault("-x1", 1);
        Due.fault("-s", 1);
        Due.fault("+1", 0);
        Due.fault("x", 1);
        Due.fault("x 1", 1);
        Due.fault("xg", 1);
        Due.fault("xA", 1);
        Due.fault("x1f", NONE);
        Due.fault("x1 f", 3);
        Due.fault("x0123456789abcdef", NONE);
        Due.fault("x0123456789abcdef0", 17);
        Due.fault("x1.5", 2);
        Due.fault("1.", 2);
        Due.fault("1.;", 2);
        Due.fault(".5", 0);
        Due.fault("1 .5", 2);
        Due.fault("1. 5", 2);
        Due.fault("1.5.5", 3);
        Due.fault("1.-5", 2);
        Due.fault("1e5", 1);
        Due.fault("123456789", NONE);
        Due.fault("1234567890", 9);
        Due.fault("-1234567890", 10);
        Due.fault("000000000;1", NONE);
        Due.fault("1.123456789", NONE);
        Due.fault("1.1234567890", 11);
        Due.fault("123456789.123456789", NONE);
    }

    private static void faultOfFortyValues() {
        Due.fault(times(39, "1;") + "1", NONE);
        Due.fault(times(40, "1;"), 80);
        Due.fault(times(40, "1;") + "1", 80);
        Due.fault(times(40, "1;") + " -1", 81);
        Due.fault(times(40, "1;") + "x", 80);
        Due.fault(times(40, "1;") + "s", NONE);
        Due.fault(times(40, "1;") + "sb4", NONE);
        Due.fault(times(40, "1;") + "s;", 82);
        Due.fault(times(40, "1;") + "s;1", 82);
        Due.fault(times(40, "1;") + "s;s", 82);
        Due.fault("s;" + times(39, "1;") + "1", NONE);
        Due.fault("s;" + times(40, "1;"), 82);
        Due.fault("s;" + times(40, "1;") + "1", 82);
        Due.fault("s;" + times(40, "1;") + "s", 82);
    }

    private static void faultOfRawBlocks() {
        int[] seven = Due.eight(7);
        Due.blockFault(0);
        Due.blockFault(0, 3);
        Due.blockFault(1, 0);
        Due.blockFault(1, 0, 0);
        Due.blockFault(1, 0, 17);
        Due.blockFault(2, 0, 1);
        Due.blockFault(9, Due.joined(Due.row(0, 1), java.util.Arrays.copyOf(seven, 7)));
        Due.blockFault(10, Due.joined(Due.row(0, 1), seven));
        int[] good = Due.checked(Due.joined(Due.row(0, 1), seven));
        Due.blockFault(NONE, good);
        Due.blockFault(11, Due.joined(good, Due.row(0)));
        good[10] = (good[10] + 1) & 255;
        Due.blockFault(10, good);
    }

    private static int[] decimal(int n, int e, int f, int exceptions, long base, int width, int... rest) {
        return Due.joined(Due.row(1, n, e, f, exceptions), Due.eight(base), Due.row(width), rest);
    }

    private static void faultOfDecimalBlocks() {
        Due.blockFault(2, 1, 1, 15);
        Due.blockFault(3, 1, 1, 3, 4);
        Due.blockFault(4, 1, 1, 3, 3, 2);
        Due.blockFault(8, 1, 1, 3, 3, 0, 0, 0, 0);
        Due.blockFault(13, decimal(1, 3, 3, 0, 0, 54));
        Due.blockFault(NONE, Due.checked(decimal(1, 14, 14, 0, -9, 0)));
        Due.blockFault(NONE, Due.checked(decimal(2, 1, 0, 0, -9, 3, 0b11101000)));
        Due.blockFault(NONE, Due.checked(decimal(2, 1, 0, 0, -9, 3, 0b11111100)));
        Due.blockFault(14, Due.checked(decimal(2, 1, 0, 0, -9, 3, 0b11101001)));
        Due.blockFault(14, Due.checked(decimal(2, 1, 0, 0, -9, 3, 0b11101010)));
        Due.blockFault(14, decimal(2, 1, 0, 0, -9, 3));
        Due.blockFault(15, decimal(2, 1, 0, 0, -9, 5, 255));
        Due.blockFault(15, Due.checked(decimal(2, 1, 0, 0, -9, 5, 255, 32)));
        // Places of EXCEPTIONS rise, and leave places for those to come.
        int[] e = Due.eight(5);
        Due.blockFault(NONE, Due.checked(Due.joined(decimal(3, 1, 0, 2, 0, 0), Due.row(0), e, Due.row(2), e)));
        Due.blockFault(NONE, Due.checked(Due.joined(decimal(3, 1, 0, 2, 0, 0), Due.row(1), e, Due.row(2), e)));
        Due.blockFault(14, Due.checked(Due.joined(decimal(3, 1, 0, 2, 0, 0), Due.row(2), e, Due.row(2), e)));
        Due.blockFault(23, Due.checked(Due.joined(decimal(3, 1, 0, 2, 0, 0), Due.row(1), e, Due.row(1), e)));
        Due.blockFault(23, Due.checked(Due.joined(decimal(3, 1, 0, 2, 0, 0), Due.row(1), e, Due.row(3), e)));
        Due.blockFault(22, java.util.Arrays.copyOf(Due.joined(decimal(3, 1, 0, 2, 0, 0), Due.row(1), e), 22));
        Due.blockFault(14, Due.checked(Due.joined(decimal(1, 1, 0, 1, 0, 0), Due.row(1), e)));
    }

    /** Of one VALUE with this h and these rows. */
    private static int[] split(int h, int[] parts, int exceptions, int... rest) {
        return Due.joined(Due.row(2, 1, h, parts.length / 2), parts, Due.row(exceptions), rest);
    }

    private static void faultOfSplitBlocks() {
        Due.blockFault(2, 2, 1, 3);
        Due.blockFault(2, 2, 1, 17);
        Due.blockFault(3, 2, 1, 4, 0);
        Due.blockFault(3, 2, 1, 4, 9);
        // Two bytes below 2 to the h: wrong at the first one that can't be.
        Due.blockFault(4, 2, 1, 4, 1, 1);
        Due.blockFault(5, 2, 1, 4, 1, 0, 16);
        Due.blockFault(6, 2, 1, 4, 1, 0, 15);
        Due.blockFault(4, 2, 1, 8, 1, 1, 0);
        Due.blockFault(6, 2, 1, 8, 1, 0, 255);
        Due.blockFault(4, 2, 1, 9, 1, 2, 0);
        Due.blockFault(6, 2, 1, 9, 1, 1, 255);
        Due.blockFault(6, 2, 1, 16, 1, 255, 255);
        Due.blockFault(5, 2, 1, 16, 1, 255);
        Due.blockFault(6, 2, 1, 16, 1, 255, 255, 2);
        int[] one = {0, 3};
        int[] six = new int[6];
        Due.blockFault(NONE, Due.checked(split(16, one, 0, six)));
        Due.blockFault(12, split(16, one, 0, java.util.Arrays.copyOf(six, 5)));
        // Three PARTS: a CODE of two bits; 3 is none, wrong where its last bit stands.
        int[] three = {0, 3, 0, 1, 0, 2};
        Due.blockFault(11, split(16, three, 0, 0b11000000));
        Due.blockFault(12, split(16, three, 0, 0b10000000));
        Due.blockFault(NONE, Due.checked(split(16, three, 0, 0b10111111, 255, 255, 255, 255, 255, 0b11000000)));
        Due.blockFault(17, Due.checked(split(16, three, 0, 0b10111111, 255, 255, 255, 255, 255, 0b11100000)));
        // Two VALUES of 51 bits each: the second CODE's bits are 51 to 53, all in byte 6.
        int[] five = {0, 0, 0, 1, 0, 2, 0, 3, 0, 4};
        int[] second = Due.joined(Due.row(2, 2, 16, 5), five, Due.row(0), new int[6], Due.row(0b00010100));
        Due.blockFault(21, second);
        second[21] = 0b00010000;
        Due.blockFault(22, second);
        // Of 55 bits each the second CODE has one bit in byte 6 and two in byte 7: wrong at the later one.
        int[] wide = Due.joined(Due.row(2, 2, 12, 5), five, Due.row(0), new int[6], Due.row(1));
        Due.blockFault(22, wide);
        Due.blockFault(22, Due.joined(wide, Due.row(0b01000000)));
        Due.blockFault(23, Due.joined(wide, Due.row(0b00000000)));
        // EXCEPTIONS.
        Due.blockFault(NONE, Due.checked(split(16, one, 1, Due.joined(six, Due.row(0, 255, 255)))));
        Due.blockFault(13, split(16, one, 1, Due.joined(six, Due.row(1, 255, 255))));
        int[] seven = new int[7];
        Due.blockFault(NONE, Due.checked(split(12, one, 1, Due.joined(seven, Due.row(0, 15, 255)))));
        Due.blockFault(15, split(12, one, 1, Due.joined(seven, Due.row(0, 16, 0))));
        Due.blockFault(16, split(12, one, 1, Due.joined(seven, Due.row(0, 15))));
        Due.blockFault(17, split(5, one, 1, Due.joined(new int[8], Due.row(0, 0, 32))));
        // The fourth CODE ends with byte 20's last bit: wrong there, not behind it.
        int[] fourth = Due.joined(Due.row(2, 4, 12, 5), five, Due.row(0), new int[20]);
        Due.blockFault(35, Due.joined(fourth, Due.row(0b00000101)));
        Due.blockFault(36, Due.joined(fourth, Due.row(0b00000100)));
        // Three VALUES of 48 LOW bits: places rise and leave places for those to come.
        int[] three48 = Due.joined(Due.row(2, 3, 16, 1), one, Due.row(2), new int[18]);
        Due.blockFault(NONE, Due.checked(Due.joined(three48, Due.row(0, 0, 9, 2, 0, 9))));
        Due.blockFault(NONE, Due.checked(Due.joined(three48, Due.row(1, 0, 9, 2, 0, 9))));
        Due.blockFault(25, Due.joined(three48, Due.row(2, 0, 9, 2, 0, 9)));
        Due.blockFault(28, Due.joined(three48, Due.row(1, 0, 9, 1, 0, 9)));
        Due.blockFault(28, Due.joined(three48, Due.row(1, 0, 9, 0, 0, 9)));
        Due.blockFault(28, Due.joined(three48, Due.row(0, 0, 9, 3, 0, 9)));
        Due.blockFault(6, 2, 3, 16, 1, 0, 3, 4);
    }

    // Promise 5
    private static void text() {
        GuisePack x = Due.told("1;2;3");
        x.write(0);
        x.drop();
        x.add(1);
        x.image();
        x.put(9, 9);
        Due.sign(x, "1;;");
        Due.is("text of a FAULT", x.text(), NONE);
        Due.is("the TAPE stays", x.count(1), 3);
        Due.is("the COLUMN stays", x.count(0), 3);
        Due.is("ACTS stay", x.count(4), 2);
        Due.sign(x, "sb3;4;5");
        Due.is("text", x.text(), 2);
        Due.is("the TAPE is empty", x.count(1), 0);
        Due.is("written is gone", x.count(2), 0);
        Due.is("octet is gone", x.octet(0), NONE);
        Due.is("the LOG is gone", x.count(3), 0);
        Due.is("ACTS are gone", x.undo(), NONE);
        Due.is("the IMAGE is gone", x.back(), NONE);
        Due.is("STATUS stays", x.status(0), 1);
        Due.is("BLOCK", x.rule(0), 3);
        Due.sign(x, "4");
        x.text();
        Due.is("BLOCK without", x.rule(0), 8);
        Due.is("no RULES, no VALUES", Due.told("s").count(0), 0);
        Due.is("forty VALUES", Due.told(times(40, "1;") + "s").count(0), 40);
    }

    // Promise 6
    private static void rule() {
        GuisePack x = Due.told("s m 3 b16;1");
        Due.is("rule(0)", x.rule(0), 16);
        Due.is("rule(1)", x.rule(1), 3);
        Due.is("rule(2)", x.rule(2), 10);
        Due.is("rule(3)", x.rule(3), 12);
        Due.is("rule(4)", x.rule(4), 4);
        Due.is("rule(5)", x.rule(5), NONE);
        Due.is("rule(-1)", x.rule(-1), NONE);
        GuisePack y = Due.told("se14l04d8");
        Due.is("rule(2)", y.rule(2), 14);
        Due.is("rule(3)", y.rule(3), 4);
        Due.is("rule(4)", y.rule(4), 8);
    }

    // Promise 7
    private static void value() {
        GuisePack x = Due.told("0;-0;-0.00;1;-1.5;0.1;123456789.123456789;999999999.999999999;0.000000001;00012.50");
        long[] due = {0, MINUS, MINUS, Due.bits(1), Due.bits(-1.5), Due.bits(0.1), Due.bits(123456789123456789.0 / 1e9),
            Due.bits(999999999999999999.0 / 1e9), Due.bits(1.0 / 1e9), Due.bits(12.5)};
        for (int i = 0; i < due.length; i++) {
            Due.is("value(" + i + ")", x.value(i), due[i]);
        }
        Due.noValue(x, 10);
        Due.noValue(x, -1);
        GuisePack y = Due.told("i;-i;n;-n;x1;xf;x8000000000000000;xffffffffffffffff;x0;x0010");
        long[] bits = {INFINITE, INFINITE | MINUS, MISSING, MISSING | MINUS, 1, 15, MINUS, -1, 0, 16};
        for (int i = 0; i < bits.length; i++) {
            Due.is("value(" + i + ") of bits", y.value(i), bits[i]);
        }
    }

    // Promise 8
    private static void about() {
        GuisePack x = Due.told("sb2e2;1.25;3;1.25;0.001;0;-0;n;i;1.5");
        int[] finite = {1, 1, 1, 1, 1, 1, 0, 0, 1};
        int[] places = {2, 0, 2, -1, 0, -1, -1, -1, 1};
        int[] ways = {1, 6, 1, 0, 6, 0, 0, 0, 3};
        int[] first = {0, 1, 0, 3, 4, 5, 6, 7, 8};
        for (int i = 0; i < 9; i++) {
            Due.is("about(" + i + ", 0)", x.about(i, 0), finite[i]);
            Due.is("about(" + i + ", 1)", x.about(i, 1), places[i]);
            Due.is("about(" + i + ", 3)", x.about(i, 3), i / 2);
            Due.is("about(" + i + ", 4)", x.about(i, 4), (int) (x.value(i) >>> 52));
            Due.is("about(" + i + ", 6)", x.about(i, 6), first[i]);
        }
        Due.is("ways of 1.25 up to e 2", x.about(0, 2), ways[0]);
        Due.is("ways of 0", x.about(4, 2), ways[4]);
        Due.is("ways of -0", x.about(5, 2), ways[5]);
        Due.is("about(0, 7)", x.about(0, 7), HIDDEN);
        Due.is("about(0, -1)", x.about(0, -1), HIDDEN);
        Due.is("about(9, 0)", x.about(9, 0), HIDDEN);
        Due.is("about(-1, 0)", x.about(-1, 0), HIDDEN);
        x.set(3, 4);
        Due.is("PART by HIGH 4", x.about(0, 4), 3);
        // With MISSING ones among whole numbers a DECIMAL BLOCK has EXCEPTIONS; a RAW one has none.
        GuisePack y = Due.told("1;2;n;3;4;5;6;7;n;x123456789abcdef0");
        Due.is("FORM", y.block(0, 1), 1);
        Due.is("an EXCEPTION", y.about(2, 5), 1);
        Due.is("no EXCEPTION", y.about(3, 5), 0);
        Due.is("FORM of the last", y.block(1, 1), 0);
        Due.is("none in RAW", y.about(8, 5), 0);
    }

    // Promise 9
    private static void guise() {
        GuisePack x = Due.told("1.5;-0;225179981;0.1;n;1000;-7.25");
        Due.is("guise of 1.5 by 1, 0", x.guise(0, 1, 0), 15);
        Due.is("guise of 1.5 by 14, 0", x.guise(0, 14, 0), 150000000000000L);
        Due.is("guise of 1.5 by 2, 1", x.guise(0, 2, 1), 15);
        Due.is("guise of 1.5 by 0, 0", x.guise(0, 0, 0), HIDDEN);
        Due.is("guise of 1.5 by 15, 0", x.guise(0, 15, 0), HIDDEN);
        Due.is("guise of 1.5 by -1, 0", x.guise(0, -1, 0), HIDDEN);
        Due.is("guise of 1.5 by 1, 2", x.guise(0, 1, 2), HIDDEN);
        Due.is("guise of 1.5 by 1, -1", x.guise(0, 1, -1), HIDDEN);
        Due.is("guise of -0", x.guise(1, 0, 0), HIDDEN);
        Due.is("guise of 225179981 by 7", x.guise(2, 7, 0), 2251799810000000L);
        Due.is("guise of 225179981 by 8", x.guise(2, 8, 0), HIDDEN);
        Due.is("guise of MISSING", x.guise(4, 0, 0), HIDDEN);
        Due.is("guise of 1000 by 3, 3", x.guise(5, 3, 3), 1000);
        Due.is("guise of -7.25", x.guise(6, 2, 0), -725);
        Due.is("guise of no place", x.guise(7, 0, 0), HIDDEN);
        Due.is("guise of place -1", x.guise(-1, 0, 0), HIDDEN);
        // X must be above -2 to the 51 and below 2 to the 51; R may be these by rounding.
        long bound = Due.bits(2251799813685248.0);
        x.put(0, bound);
        Due.is("guise of 2 to the 51", x.guise(0, 0, 0), HIDDEN);
        x.put(0, bound | MINUS);
        Due.is("guise of -2 to the 51", x.guise(0, 0, 0), HIDDEN);
        x.put(0, Due.bits(2251799813685247.0));
        Due.is("guise of 2 to the 51 less 1", x.guise(0, 0, 0), 2251799813685247L);
        x.put(0, Due.bits(-2251799813685247.0));
        Due.is("guise of 1 less 2 to the 51", x.guise(0, 0, 0), -2251799813685247L);
        x.put(0, 1);
        Due.is("guise of the least VALUE", x.guise(0, 14, 0), HIDDEN);
        x.put(0, 0x7fefffffffffffffL);
        Due.is("guise of the greatest VALUE", x.guise(0, 14, 14), HIDDEN);
        x.put(0, 0);
        Due.is("guise of 0", x.guise(0, 14, 14), 0);
    }

    // Promises 10 to 12
    private static void costScoreFive() {
        GuisePack x = Due.told("sb4m2;1.5;2.5;-0.5;7;1.25;n");
        Due.is("cost(0, 1, 0)", x.cost(0, 1, 0), 15 + 4);
        Due.is("cost(0, 0, 0)", x.cost(0, 0, 0), 15 + 27);
        Due.is("cost(1, 2, 0)", x.cost(1, 2, 0), 15 + 9);
        Due.is("cost(1, 1, 0)", x.cost(1, 1, 0), 15 + 18);
        Due.is("cost(2, 1, 0)", x.cost(2, 1, 0), NONE);
        Due.is("cost(-1, 1, 0)", x.cost(-1, 1, 0), NONE);
        Due.is("cost(0, 15, 0)", x.cost(0, 15, 0), NONE);
        Due.is("cost(0, 1, 2)", x.cost(0, 1, 2), NONE);
        Due.is("cost(0, 14, 14) is told", x.cost(0, 14, 14) > 0, true);
        // SAMPLES: 1.5 and -0.5, 1.25 and n.
        Due.is("score(1, 0)", x.score(1, 0), 15 + 2 + 15 + 18);
        Due.is("score(2, 0)", x.score(2, 0), 15 + 2 + 15 + 9);
        Due.is("score(0, 1)", x.score(0, 1), NONE);
        Due.is("score(15, 0)", x.score(15, 0), NONE);
        Due.is("score(-1, -1)", x.score(-1, -1), NONE);
        Due.is("five(0)", x.five(0), 32);
        Due.is("five(-1)", x.five(-1), NONE);
        Due.is("five(5)", x.five(5), NONE);
        // All PAIRS up to TOP cost as much for zeros: the lesser e, then the lesser f.
        GuisePack zeros = Due.told("0;0;0");
        int[] order = {0, 16, 17, 32, 33};
        for (int i = 0; i < 5; i++) {
            Due.is("five(" + i + ") of zeros", zeros.five(i), order[i]);
        }
        zeros.set(2, 1);
        Due.is("five(2) up to e 1", zeros.five(2), 17);
        Due.is("five(3) up to e 1", zeros.five(3), NONE);
        zeros.set(2, 0);
        Due.is("five(0) up to e 0", zeros.five(0), 0);
        Due.is("five(1) up to e 0", zeros.five(1), NONE);
        zeros.drop();
        zeros.drop();
        zeros.drop();
        Due.is("five(0) without VALUES", zeros.five(0), NONE);
        Due.is("score without VALUES", zeros.score(14, 14), 0);
        // The places i times how many by q, cut: of 5 by 3 these are 0, 1 and 3.
        GuisePack sampled = Due.told("sm3;1;2;n;4;n");
        Due.is("score by places 0, 1, 3", sampled.score(0, 0), 15 + 1);
        Due.is("SCORE isn't COST", sampled.cost(0, 0, 0), 15 + 2 + 18);
    }

    // Promise 13
    private static void block() {
        GuisePack x = Due.told("sb4;1;2;n;4;0.5;n");
        int[] first = {4, 1, 16, 15 + 3 + 9, 6 + 8 + 27, 4, 5, 4};
        int[] second = {2, 0, 16, 3 + 16, 6 + 4 + 14, 0, 0, 2};
        for (int what = 0; what < 8; what++) {
            Due.is("block(0, " + what + ")", x.block(0, what), first[what]);
            Due.is("block(1, " + what + ")", x.block(1, what), second[what]);
        }
        Due.is("block(1, 8)", x.block(1, 8), HIDDEN);
        Due.is("block(1, -1)", x.block(1, -1), HIDDEN);
        Due.is("block(2, 0)", x.block(2, 0), HIDDEN);
        Due.is("block(-1, 0)", x.block(-1, 0), HIDDEN);
        // VALUES with like first bits and no short decimals are SPLIT.
        GuisePack y = Due.told("sl16d1;x4011223344556677;x4011123456789abc;x4011fedcba987654;x40117777777777aa;x5011000000000001");
        Due.is("SPLIT", y.block(0, 1), 2);
        Due.is("COST as SPLIT", y.block(0, 3), 6 + 2 + 30 + 3);
        Due.is("EXCEPTIONS as SPLIT", y.block(0, 5), 16);
        Due.is("PARTS", y.block(0, 7), 1);
        Due.is("about an EXCEPTION", y.about(4, 5), 1);
        // A bit in a last byte costs that byte.
        Due.is("49 bits as SPLIT", Due.told("sl15;1").block(0, 4), 6 + 2 + 7);
        Due.is("9 bits as DECIMAL", Due.told("sb16;" + times(8, "1;") + "2").cost(0, 0, 0), 15 + 2);
        // Of several FORMS with the least COST the one told ahead.
        GuisePack z = Due.told("0.5;n");
        Due.is("RAW of 19 bytes", z.block(0, 3), 19);
        GuisePack alike = Due.told("sd1l8;x4011223344556677");
        Due.is("RAW or SPLIT", alike.block(0, 1), 0);
        Due.is("its EXCEPTIONS", alike.block(0, 5), 0);
    }

    // Promise 14
    private static void whole() {
        GuisePack x = Due.told("sb5;1.5;2.5;-0.5;7;2.5;n;i");
        Due.is("BASE", x.whole(0, 0), -5);
        Due.is("greatest R", x.whole(0, 1), 70);
        Due.is("R of most", x.whole(0, 2), 25);
        Due.is("BASE, none FITS", x.whole(1, 0), 0);
        Due.is("greatest, none FITS", x.whole(1, 1), 0);
        Due.is("of most, none FITS", x.whole(1, 2), 0);
        Due.is("whole(0, 3)", x.whole(0, 3), HIDDEN);
        Due.is("whole(0, -1)", x.whole(0, -1), HIDDEN);
        Due.is("whole(2, 0)", x.whole(2, 0), HIDDEN);
        Due.is("whole(-1, 0)", x.whole(-1, 0), HIDDEN);
        GuisePack y = Due.told("9;3;9;3;5");
        Due.is("of several the least", y.whole(0, 2), 3);
    }

    // Promise 15
    private static void part() {
        GuisePack x = Due.told("sl4d2;x1000000000000000;x2;x2000000000000000;x3000000000000000;x2000000000000001;x1");
        Due.is("part(0, 0)", x.part(0, 0), 0);
        Due.is("part(0, 1)", x.part(0, 1), 2);
        Due.is("part(0, 2)", x.part(0, 2), NONE);
        Due.is("part(0, -1)", x.part(0, -1), NONE);
        Due.is("part(1, 0)", x.part(1, 0), NONE);
        Due.is("part(-1, 0)", x.part(-1, 0), NONE);
        x.set(4, 8);
        int[] all = {0, 2, 1, 3};
        for (int j = 0; j < 4; j++) {
            Due.is("part(0, " + j + ") of four", x.part(0, j), all[j]);
        }
        Due.is("part(0, 4) of four", x.part(0, 4), NONE);
    }

    // Promises 16 and 17
    private static void writeAndOctet() {
        GuisePack x = Due.told("sb4;1.5;2.5;-0.5;7;n;x123456789abcdef0;1;1");
        Due.rows("DECIMAL", Due.written(x, 0),
            1, 4, 1, 0, 0, 255, 255, 255, 255, 255, 255, 255, 251, 7, 40, 120, 4, 176, 118);
        Due.is("write(2)", x.write(2), NONE);
        Due.is("write(-1)", x.write(-1), NONE);
        Due.is("what was written stays", x.count(2), 19);
        Due.is("octet(19)", x.octet(19), NONE);
        Due.is("octet(-1)", x.octet(-1), NONE);
        GuisePack raw = Due.told("x0102030405060708;n");
        Due.rows("RAW", Due.written(raw, 0),
            Due.checked(0, 2, 1, 2, 3, 4, 5, 6, 7, 8, 0x7f, 0xf8, 0, 0, 0, 0, 0, 0));
        GuisePack some = Due.told("3;n;4;5;6;7;8;9");
        Due.rows("DECIMAL with an EXCEPTION", Due.written(some, 0),
            Due.checked(1, 8, 0, 0, 1, 0, 0, 0, 0, 0, 0, 0, 3, 3, 0b00000000, 0b10100111, 0b00101110,
                1, 0x7f, 0xf8, 0, 0, 0, 0, 0, 0));
        // 0.3, 0.6 and 0.7 FIT by 6, 5 (3 times a tenth isn't 0.3).
        Due.rows("DECIMAL by an odd f", Due.written(Due.told("0.3;0.6;0.7"), 0),
            Due.checked(1, 3, 6, 5, 0, 0, 0, 0, 0, 0, 0, 0, 3, 3, 0b00001110, 0));
        GuisePack y = Due.told("sl16d2;x4011223344556677;x4011123456789abc;x4011fedcba987654;x40117777777777aa;"
            + "x5011000000000001;x5011000000000002;xc022000000000003");
        int[] due = Due.checked(Due.joined(Due.row(2, 7, 16, 2, 0x40, 0x11, 0x50, 0x11, 1),
            packed("0" + bits(0x223344556677L) + "0" + bits(0x123456789abcL) + "0" + bits(0xfedcba987654L)
                + "0" + bits(0x7777777777aaL) + "1" + bits(1) + "1" + bits(2) + "0" + bits(3)),
            Due.row(6, 0xc0, 0x22)));
        Due.rows("SPLIT", Due.written(y, 0), due);
        Due.is("no ACT", y.count(4), 0);
    }

    private static String bits(long low) {
        String all = Long.toBinaryString(low);
        return "0".repeat(48 - all.length()) + all;
    }

    private static int[] packed(String bits) {
        String all = bits + "0".repeat((8 - bits.length() % 8) % 8);
        int[] bytes = new int[all.length() / 8];
        for (int i = 0; i < bytes.length; i++) {
            bytes[i] = Integer.parseInt(all.substring(8 * i, 8 * i + 8), 2);
        }
        return bytes;
    }

    // Promise 18
    private static void peek() {
        GuisePack x = new GuisePack();
        Due.bytes(x, Due.checked(Due.joined(Due.row(0, 2), Due.eight(-2), Due.eight(MINUS))));
        Due.is("peek(0) of RAW", x.peek(0), -2);
        Due.is("peek(1) of RAW", x.peek(1), MINUS);
        Due.is("peek(2) of RAW", x.peek(2), HIDDEN);
        Due.is("peek(-1) of RAW", x.peek(-1), HIDDEN);
        Due.is("the TAPE stays", x.count(1), 19);
        // BASE and the bits go round: the greatest whole number and 1 are the least one.
        Due.bytes(x, Due.checked(decimal(2, 2, 1, 0, Long.MAX_VALUE, 1, 0b01000000)));
        Due.is("peek(0) of BASE", x.peek(0), Due.bits((double) Long.MAX_VALUE * 10.0 * (1.0 / 100.0)));
        Due.is("peek(1) round", x.peek(1), Due.bits((double) Long.MIN_VALUE * 10.0 * (1.0 / 100.0)));
        Due.bytes(x, Due.checked(Due.joined(decimal(2, 2, 0, 1, 125, 0), Due.row(1), Due.eight(MISSING))));
        Due.is("peek(0) beside an EXCEPTION", x.peek(0), Due.bits(1.25));
        Due.is("peek(1) of an EXCEPTION", x.peek(1), MISSING);
        Due.bytes(x, Due.checked(decimal(1, 14, 0, 0, 0, 0)));
        Due.is("peek(0) of 0", x.peek(0), 0);
        int[] two = {0, 3, 0, 1};
        Due.bytes(x, Due.checked(split(4, two, 0, 0b11000000, 0, 0, 0, 0, 0, 0, 0b00001000)));
        Due.is("peek(0) of SPLIT", x.peek(0), 0x1800000000000001L);
        Due.bytes(x, Due.checked(split(4, two, 1, 0b11000000, 0, 0, 0, 0, 0, 0, 0b00001000, 0, 0, 15)));
        Due.is("peek(0) of an EXCEPTION", x.peek(0), 0xf800000000000001L);
    }

    // Promise 19
    private static void add() {
        GuisePack x = new GuisePack();
        Due.is("add without COLUMN", x.add(1), NONE);
        Due.is("its STATUS", x.status(0), 1);
        Due.sign(x, "s");
        x.text();
        for (int i = 0; i < 64; i++) {
            Due.is("add", x.add(i), i);
        }
        Due.is("add of a 65th", x.add(1), NONE);
        Due.is("STATUS 3", x.status(3), 1);
        Due.is("still 64", x.count(0), 64);
        Due.is("value(63)", x.value(63), 63);
        Due.is("the LOG has no refused one", x.log(0, 1), 63);
    }

    // Promise 20
    private static void put() {
        GuisePack x = Due.told("1;-0");
        Due.is("put", x.put(1, 0), 1);
        Due.is("value", x.value(1), 0);
        Due.is("put of what is so", x.put(1, 0), NONE);
        Due.is("STATUS 2", x.status(2), 1);
        Due.is("put(2)", x.put(2, 0), NONE);
        Due.is("put(-1)", x.put(-1, 0), NONE);
        Due.is("STATUS 0", x.status(0), 2);
        Due.is("one ACT", x.count(4), 1);
        Due.is("LOG sort", x.log(0, 0), 1);
        Due.is("LOG place", x.log(0, 1), 1);
    }

    // Promise 21
    private static void drop() {
        GuisePack x = Due.told("1;2");
        Due.is("drop", x.drop(), 1);
        Due.is("LOG sort", x.log(0, 0), 2);
        Due.is("LOG place", x.log(0, 1), 1);
        Due.is("LOG size", x.log(0, 2), 1);
        Due.is("drop", x.drop(), 0);
        Due.is("drop of none", x.drop(), NONE);
        Due.is("STATUS 0", x.status(0), 1);
        Due.noValue(x, 0);
    }

    // Promise 22
    private static void swap() {
        GuisePack x = Due.told("1;2;1;0;-0");
        Due.is("swap(1, 0)", x.swap(1, 0), 1);
        Due.is("value(0)", x.value(0), Due.bits(2));
        Due.is("value(1)", x.value(1), Due.bits(1));
        Due.is("LOG sort", x.log(0, 0), 3);
        Due.is("LOG number", x.log(0, 1), 1);
        Due.is("swap of like ones", x.swap(1, 2), NONE);
        Due.is("swap of one", x.swap(3, 3), NONE);
        Due.is("STATUS 2", x.status(2), 2);
        Due.is("swap(5, 5)", x.swap(5, 5), NONE);
        Due.is("swap(0, -1)", x.swap(0, -1), NONE);
        Due.is("swap(-1, 0)", x.swap(-1, 0), NONE);
        Due.is("STATUS 0", x.status(0), 3);
        Due.is("swap of 0 and -0", x.swap(3, 4), 3);
        Due.is("value(3)", x.value(3), MINUS);
    }

    // Promise 23
    private static void set() {
        GuisePack x = new GuisePack();
        Due.is("set without COLUMN", x.set(0, 99), NONE);
        Due.is("STATUS 0", x.status(0), 1);
        Due.sign(x, "1");
        x.text();
        int[] low = {2, 1, 0, 4, 1};
        int[] high = {16, 16, 14, 16, 8};
        int[] usual = {8, 4, 10, 12, 4};
        for (int k = 0; k < 5; k++) {
            Due.is("set below", x.set(k, low[k] - 1), NONE);
            Due.is("set above", x.set(k, high[k] + 1), NONE);
            Due.is("STATUS 1", x.status(1), 2 * k + 2);
            Due.is("set as it is", x.set(k, usual[k]), NONE);
            Due.is("STATUS 2", x.status(2), k + 1);
            Due.is("set to the least", x.set(k, low[k]), usual[k]);
            Due.is("set to the greatest", x.set(k, high[k]), low[k]);
            Due.is("rule", x.rule(k), high[k]);
            Due.is("LOG sort", x.log(0, 0), 4);
            Due.is("LOG number", x.log(0, 1), k);
        }
        Due.is("set(5)", x.set(5, 4), NONE);
        Due.is("set(-1)", x.set(-1, 99), NONE);
        Due.is("STATUS 0", x.status(0), 3);
    }

    // Promise 24
    private static void take() {
        GuisePack x = new GuisePack();
        int[] good = Due.checked(Due.joined(Due.row(0, 2), Due.eight(5), Due.eight(6)));
        Due.bytes(x, good);
        Due.is("take without COLUMN", x.take(), NONE);
        Due.is("STATUS 0", x.status(0), 1);
        Due.is("the TAPE stays", x.count(1), good.length);
        Due.sign(x, "1");
        x.text();
        Due.is("take of nothing", x.take(), NONE);
        Due.is("STATUS 4", x.status(4), 1);
        for (int k = 0; k < 31; k++) {
            Due.bytes(x, good);
            Due.is("take", x.take(), 2);
            Due.is("the TAPE is empty", x.count(1), 0);
        }
        Due.is("63 VALUES", x.count(0), 63);
        Due.is("value(62)", x.value(62), 6);
        Due.is("LOG sort", x.log(0, 0), 5);
        Due.is("LOG how many", x.log(0, 1), 2);
        Due.is("LOG size", x.log(0, 2), 63);
        Due.bytes(x, good);
        Due.is("take of two more", x.take(), NONE);
        Due.is("STATUS 3", x.status(3), 1);
        Due.is("the TAPE stays", x.count(1), good.length);
        good[good.length - 1] ^= 1;
        Due.bytes(x, good);
        Due.is("a FAULT goes ahead", x.take(), NONE);
        Due.is("STATUS 4", x.status(4), 2);
        Due.is("STATUS 3 as it was", x.status(3), 1);
        Due.is("the TAPE stays", x.count(1), good.length);
        Due.bytes(x, Due.checked(Due.joined(Due.row(0, 1), Due.eight(9))));
        Due.is("take of the 64th", x.take(), 1);
        Due.is("undo of a take", x.undo(), 31);
        Due.is("63 again", x.count(0), 63);
    }

    // Promise 25
    private static void status() {
        GuisePack x = Due.told("1");
        for (int k = 0; k < 5; k++) {
            Due.is("status(" + k + ")", x.status(k), 0);
        }
        Due.is("status(5)", x.status(5), NONE);
        Due.is("status(-1)", x.status(-1), NONE);
        x.drop();
        x.drop();
        x.undo();
        Due.is("not UNDONE", x.status(0), 1);
        x.image();
        x.put(4, 4);
        x.back();
        Due.is("not in the IMAGE", x.status(0), 2);
        x.value(0);
        x.about(9, 9);
        x.octet(9);
        x.feed(0, 0, 0, 0, 0);
        x.text();
        x.undo();
        Due.is("ACTS alone", x.status(0) + x.status(1) + x.status(2) + x.status(3) + x.status(4), 2);
    }

    // Promise 26
    private static void undo() {
        GuisePack x = Due.told("1;2");
        x.add(7);
        x.put(0, 8);
        x.swap(0, 1);
        x.set(0, 3);
        x.drop();
        Due.is("undo of drop", x.undo(), 4);
        Due.is("value(2)", x.value(2), 7);
        Due.is("undo of set", x.undo(), 3);
        Due.is("rule(0)", x.rule(0), 8);
        Due.is("undo of swap", x.undo(), 2);
        Due.is("value(0)", x.value(0), 8);
        Due.is("undo of put", x.undo(), 1);
        Due.is("value(0)", x.value(0), Due.bits(1));
        Due.is("the LOG, too", x.count(3), 1);
        Due.is("undo of add", x.undo(), 0);
        Due.is("count(0)", x.count(0), 2);
        Due.is("count(3)", x.count(3), 0);
        Due.is("undo of none", x.undo(), NONE);
        // The latest 40 alone; the LOG gets back what had gone out of it.
        for (int k = 0; k < 62; k++) {
            x.put(0, 1000 + k);
        }
        Due.is("at most 40", x.count(4), 40);
        Due.is("the LOG's length", x.count(3), 60);
        for (int k = 39; k >= 0; k--) {
            Due.is("undo", x.undo(), k);
            Due.is("value(0)", x.value(0), 1000 + 21 + k);
        }
        Due.is("undo of a 41st", x.undo(), NONE);
        Due.is("the LOG's length", x.count(3), 22);
        logged(x, 22);
        for (int k = 0; k < 45; k++) {
            x.put(1, 2000 + k);
        }
        Due.is("the LOG's length once more", x.count(3), 60);
        for (int k = 0; k < 60; k++) {
            Due.is("place in the LOG", x.log(k, 1), k < 45 ? 1 : 0);
        }
        for (int k = 0; k < 40; k++) {
            x.undo();
        }
        Due.is("the LOG's length with five more", x.count(3), 27);
        Due.is("what is asked goes by what is", x.about(0, 0), 1);
    }

    private static void logged(GuisePack x, int puts) {
        for (int k = 0; k < puts; k++) {
            Due.is("LOG sort", x.log(k, 0), 1);
            Due.is("LOG place", x.log(k, 1), 0);
            Due.is("LOG size", x.log(k, 2), 2);
        }
    }

    // Promise 27
    private static void log() {
        GuisePack x = Due.told("1;2");
        x.add(5);
        x.set(2, 3);
        Due.is("log(0, 0)", x.log(0, 0), 4);
        Due.is("log(0, 1)", x.log(0, 1), 2);
        Due.is("log(0, 2)", x.log(0, 2), 3);
        Due.is("log(1, 0)", x.log(1, 0), 0);
        Due.is("log(1, 1)", x.log(1, 1), 2);
        Due.is("log(1, 2)", x.log(1, 2), 3);
        Due.is("log(2, 0)", x.log(2, 0), HIDDEN);
        Due.is("log(-1, 0)", x.log(-1, 0), HIDDEN);
        Due.is("log(0, 3)", x.log(0, 3), HIDDEN);
        Due.is("log(0, -1)", x.log(0, -1), HIDDEN);
        for (int k = 0; k < 60; k++) {
            x.put(k % 2, 100 + k);
        }
        Due.is("the latest 60", x.count(3), 60);
        Due.is("the oldest", x.log(59, 1), 0);
        Due.is("its sort", x.log(59, 0), 1);
        Due.is("one more", x.log(60, 1), HIDDEN);
        Due.is("the latest", x.log(0, 1), 1);
        x.undo();
        Due.is("what had gone is back", x.log(59, 0), 4);
        Due.is("its number", x.log(59, 1), 2);
        for (int k = 0; k < 59; k++) {
            Due.is("LOG sort", x.log(k, 0), 1);
            Due.is("LOG place", x.log(k, 1), k % 2);
            Due.is("LOG size", x.log(k, 2), 3);
        }
    }

    // Promise 28
    private static void common() {
        GuisePack x = Due.told("3;n;n;3;-0;0");
        Due.is("of several the first", x.common(0), Due.bits(3));
        Due.is("how many", x.common(1), 2);
        Due.is("common(2)", x.common(2), HIDDEN);
        Due.is("common(-1)", x.common(-1), HIDDEN);
        x.add(MISSING);
        Due.is("most", x.common(0), MISSING);
        Due.is("how many", x.common(1), 3);
        Due.is("without VALUES", Due.told("s").common(1), HIDDEN);
    }

    private static GuisePack of(double... numbers) {
        GuisePack x = Due.told("s");
        for (double number : numbers) {
            x.add(Due.bits(number));
        }
        return x;
    }

    // Promise 29
    private static void sum() {
        GuisePack x = Due.told("0.1;0.2;i;0.3;n;0.4;0.5");
        Due.is("in order", x.sum(0), Due.bits(0.1 + 0.2 + 0.3 + 0.4 + 0.5));
        Due.is("by PAIRS", x.sum(1), Due.bits((0.1 + 0.2) + (0.3 + 0.4) + 0.5));
        Due.is("sum(2)", x.sum(2), HIDDEN);
        Due.is("sum(-1)", x.sum(-1), HIDDEN);
        double max = Double.MAX_VALUE;
        GuisePack both = of(max, max, -max, -max);
        Due.is("beyond all stays so", both.sum(0), INFINITE);
        Due.is("what is no number", both.sum(1), MISSING);
        GuisePack more = of(max, max, -max, -max, 1, 1);
        Due.is("no number and a number", more.sum(1), MISSING);
        Due.is("below all", of(-max, -max, 1).sum(0), INFINITE | MINUS);
        Due.is("below all by PAIRS", of(-max, -max, 1).sum(1), INFINITE | MINUS);
        Due.is("-0 from 0 on", of(-0.0, -0.0).sum(0), 0);
        Due.is("-0 and -0", of(-0.0, -0.0).sum(1), MINUS);
        Due.is("-0 alone", of(-0.0).sum(1), MINUS);
        Due.is("-0 and 0", of(-0.0, 0.0).sum(1), 0);
        Due.is("1 and -1", of(1, -1).sum(1), 0);
        Due.is("the least ones", of(Double.MIN_VALUE, Double.MIN_VALUE).sum(0), 2);
        Due.is("normal and less", of(Double.MIN_NORMAL, -Double.MIN_VALUE).sum(0), 0x000fffffffffffffL);
        Due.is("less to normal", of(Double.MIN_NORMAL - Double.MIN_VALUE, Double.MIN_VALUE).sum(0), 0x0010000000000000L);
        Due.is("rounded", of(1, 1e-16, 1e-16).sum(0), Due.bits(1.0));
        Due.is("rounded by PAIRS", of(1, 1e-16, 1e-16, 1e-16).sum(1), Due.bits((1 + 1e-16) + 2e-16));
        Due.is("none FINITE", Due.told("n;i").sum(1), 0);
        Due.is("none", Due.told("s").sum(0), 0);
    }

    // Promises 30 and 32
    private static void savedAndBest() {
        GuisePack x = Due.told("1;2;3;4;5;6;7;8;9");
        // Now: 15 + 3 and 15 + 0; as one BLOCK: 15 + 5.
        Due.is("most(1)", x.most(1), 18 + 11);
        Due.is("saved(0, 9)", x.saved(0, 9), 29 - 20);
        Due.is("saved(0, 8)", x.saved(0, 8), 0);
        Due.is("saved(0, 1)", x.saved(0, 1), HIDDEN);
        Due.is("saved(0, 17)", x.saved(0, 17), HIDDEN);
        Due.is("saved(5, 4)", x.saved(5, 4), HIDDEN);
        Due.is("saved(-1, 4)", x.saved(-1, 4), HIDDEN);
        Due.is("as it is", x.rule(0), 8);
        Due.is("most(1) still", x.most(1), 29);
        Due.is("best(0), the least of several", x.best(0), 9);
        Due.is("best(1)", x.best(1), 1);
        Due.is("best(2)", x.best(2), 0);
        Due.is("best(5)", x.best(5), NONE);
        Due.is("best(-1)", x.best(-1), NONE);
        GuisePack y = Due.told("1.25;2.5;3.75;4.15;5.05");
        Due.is("best(2) of two places", y.best(2), 2);
        Due.is("saved by a lesser TOP is less", y.saved(2, 1) < 0, true);
        GuisePack none = Due.told("s");
        for (int k = 0; k < 5; k++) {
            int[] low = {2, 1, 0, 4, 1};
            Due.is("best without VALUES", none.best(k), low[k]);
            Due.is("saved without VALUES", none.saved(k, low[k]), 0);
        }
    }

    // Promise 31
    private static void less() {
        GuisePack x = Due.told("sb4;1;2;n;4;5;6");
        Due.is("most(1) as now", x.most(1), 15 + 1 + 9 + 15 + 1);
        // Without n: 1 2 4 5 and 6 (which is RAW then).
        Due.is("less(2)", x.less(2), 41 - (15 + 2 + 11));
        // Without 5: 1 2 n 4 and 6.
        Due.is("less(4)", x.less(4), 41 - (25 + 11));
        Due.is("less(6)", x.less(6), HIDDEN);
        Due.is("less(-1)", x.less(-1), HIDDEN);
        Due.is("as it was", x.count(0), 6);
        Due.is("less of one alone", Due.told("7").less(0), 11);
    }

    // Promise 33
    private static void alone() {
        GuisePack x = Due.told("sb2;1.5;2.5;1.25;n;7");
        int cost = x.cost(0, 2, 0) + x.cost(1, 2, 0) + x.cost(2, 2, 0);
        Due.is("ALONE", x.alone(0), 32);
        Due.is("its COSTS", x.alone(1), cost);
        Due.is("alone(2)", x.alone(2), NONE);
        Due.is("alone(-1)", x.alone(-1), NONE);
        GuisePack zeros = Due.told("0;0");
        Due.is("of several the lesser e and f", zeros.alone(0), 0);
        Due.is("COSTS of zeros", zeros.alone(1), 15);
        GuisePack top = Due.told("se1;1.25;1.5");
        Due.is("up to TOP alone", top.alone(0), 16);
    }

    // Promise 34
    private static void near() {
        GuisePack x = Due.told("x0;xffffffffffffffff;x1;-0");
        Due.is("near(0, 1)", x.near(0, 1), 64);
        Due.is("near(1, 2)", x.near(1, 2), 63);
        Due.is("near(3, 0)", x.near(3, 0), 1);
        Due.is("near(2, 2)", x.near(2, 2), 0);
        Due.is("near(0, 4)", x.near(0, 4), NONE);
        Due.is("near(4, 0)", x.near(4, 0), NONE);
        Due.is("near(-1, 0)", x.near(-1, 0), NONE);
    }

    // Promise 35
    private static void most() {
        GuisePack x = Due.told("sb4;1;1;-0;0;n;-n;n;i;-i;x7ff0000000000001;3;-0");
        int[] due = {3, 0, 3 * 35, 9, 11, 6, 4, 3, 2, 0, 7};
        for (int what = 0; what < due.length; what++) {
            if (what != 1 && what != 9 && what != 10) {
                Due.is("most(" + what + ")", x.most(what), due[what]);
            }
        }
        Due.is("most(1)", x.most(1), x.block(0, 3) + x.block(1, 3) + x.block(2, 3));
        Due.is("most(10): 3ff, 800, 000, 7ff, fff, 400", x.most(10), 6);
        int exceptions = 0;
        int[] forms = new int[3];
        for (int k = 0; k < 3; k++) {
            exceptions += Integer.bitCount(x.block(k, 5));
            forms[x.block(k, 1)]++;
        }
        Due.is("most(9)", x.most(9), exceptions);
        Due.is("most(9) is some", exceptions > 0, true);
        for (int form = 0; form < 3; form++) {
            Due.is("most(" + (11 + form) + ")", x.most(11 + form), forms[form]);
        }
        Due.is("most(14)", x.most(14), HIDDEN);
        Due.is("most(-1)", x.most(-1), HIDDEN);
        GuisePack none = Due.told("s");
        for (int what = 0; what <= 13; what++) {
            Due.is("most(" + what + ") without VALUES", none.most(what), 0);
        }
        GuisePack all = Due.told("sb4l16;1;2;3;4;x123456789abcdef0;n;i;x4444555566667777;"
            + "x4011223344556677;x4011123456789abc;x4011fedcba987654;x40117777777777aa");
        Due.is("one RAW", all.most(11), 1);
        Due.is("one DECIMAL", all.most(12), 1);
        Due.is("one SPLIT", all.most(13), 1);
    }

    // Promises 36 and 37
    private static void imageAndBack() {
        GuisePack x = Due.told("1;2");
        x.add(3);
        Due.is("back without IMAGE", x.back(), NONE);
        Due.is("image", x.image(), 3);
        x.drop();
        x.drop();
        x.set(0, 2);
        x.put(0, 9);
        Due.is("BLOCKS ahead of BACK", x.most(0), 1);
        x.set(0, 16);
        x.add(1);
        x.add(1);
        x.set(0, 2);
        Due.is("BLOCKS of two", x.most(0), 2);
        Due.is("PLACES ahead of BACK", x.about(0, 1), NONE);
        Due.is("back", x.back(), 3);
        Due.is("PLACES behind it", x.about(0, 1), 0);
        Due.is("value(0)", x.value(0), Due.bits(1));
        Due.is("value(2)", x.value(2), 3);
        Due.is("rule(0)", x.rule(0), 8);
        Due.is("the LOG", x.count(3), 1);
        Due.is("log(0, 0)", x.log(0, 0), 0);
        Due.is("no ACT can be UNDONE", x.undo(), NONE);
        Due.is("BLOCKS are as they were", x.most(0), 1);
        x.add(4);
        Due.is("ACTS behind BACK", x.undo(), 0);
        x.drop();
        Due.is("back once more", x.back(), 3);
        x.drop();
        Due.is("image instead", x.image(), 2);
        x.add(5);
        Due.is("an IMAGE is no ACT", x.count(4), 2);
        Due.is("back to the later one", x.back(), 2);
        Due.is("image without VALUES", Due.told("s").image(), 0);
    }

    // Promise 38
    private static void count() {
        GuisePack x = Due.told("1;2;3");
        x.feed(0, 0, 0, 0, 0);
        x.write(0);
        x.add(1);
        x.add(2);
        x.undo();
        Due.is("count(0)", x.count(0), 4);
        Due.is("count(1)", x.count(1), 20);
        Due.is("count(2)", x.count(2), 16);
        Due.is("count(3)", x.count(3), 1);
        Due.is("count(4)", x.count(4), 1);
        Due.is("count(5)", x.count(5), HIDDEN);
        Due.is("count(-1)", x.count(-1), HIDDEN);
    }
}
