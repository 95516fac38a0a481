/** The sentences on the TAPE and on TEXTS, each by itself: "Terms", promises 2 to 7. */
public final class TextSentencesTest {
    private static final int NONE = GuisePack.NONE;
    private static final long MINUS = Long.MIN_VALUE;
    private static final String LETTERS = "bmeld";
    private static final int[] LOWEST = {2, 1, 0, 4, 1};
    private static final int[] HIGHEST = {16, 16, 14, 16, 8};
    private static final int[] WITHOUT = {8, 4, 10, 12, 4};

    public static void main(String[] args) {
        feedHighestFirst();
        feedBytesOfZero();
        feedMoreThan320();
        endFirstBytesAlone();
        endFalse();
        faultOfNoSuchSort();
        clausesOneAtLeast();
        rulesOneAtMost();
        rulesAnywhere();
        itemsNoneOrMore();
        eachLetterOnce();
        numbersOfItems();
        thirdDigits();
        numbersWithout();
        namedValues();
        hexValues();
        digitValues();
        digitsAsOneWholeNumber();
        blanksBetweenSigns();
        noOtherBlanks();
        firstByteThatCannotGoOn();
        tooEarlyAnEnd();
        numberAtTheEnd();
        fortyFirstValue();
        behindFortyAndRules();
        bytesOfZeroAreNoSigns();
        textIsTheColumn();
        allThatWasIsGone();
        textOfAFault();
        ruleAsNow();
        valueOfNoSuchOne();
        Due.finish();
    }

    private static String times(int n, String what) {
        return Due.times(n, what);
    }

    // ---- Promise 2 ----

    private static void feedHighestFirst() {
        Due.sentence("Promise 2", "Twenty bytes more come to the TAPE (of each number the highest first");
        GuisePack x = new GuisePack();
        Due.is("feed", x.feed(0x78303132, 0x33343536, 0x37383961, 0x62636465, 0x663b2d32), 20);
        Due.is("text of x0123456789abcdef;-2", x.text(), 2);
        Due.values("all twenty bytes", x, 0x0123456789abcdefL, Due.bits(-2));
        // A second twenty stand behind the first.
        x.feed(0x313b323b, 0x333b343b, 0x353b363b, 0x373b383b, 0x393b313b);
        Due.is("feed once more", x.feed(0x78666638, 0x30303030, 0x30303030, 0x3b2d3020, 0x20202020), 40);
        Due.is("text of forty bytes", x.text(), 12);
        Due.is("value(8)", x.value(8), Due.bits(9));
        Due.is("value(10)", x.value(10), 0xff800000000L);
        Due.is("value(11)", x.value(11), MINUS);
        // Bytes above 127 are as they are.
        x.feed(0x00018182, 0xfffefdfc, 0xfbfa0000, 0, 0);
        x.end(10);
        int check = 7;
        for (int octet : new int[] {0, 1, 0x81, 0x82, 0xff, 0xfe, 0xfd, 0xfc, 0xfb, 0xfa}) {
            check = (31 * check + octet) % 251;
        }
        x.feed(check << 24, 0, 0, 0, 0);
        x.end(11);
        Due.is("peek(0) of bytes above 127", x.peek(0), 0x8182fffefdfcfbfaL);
    }

    private static void feedBytesOfZero() {
        Due.sentence("Promise 2", "0 ones, too): how many it has");
        GuisePack x = new GuisePack();
        Due.is("feed of 0", x.feed(0, 0, 0, 0, 0), 20);
        Due.is("count(1)", x.count(1), 20);
        x.end(0);
        int[] zeros = Due.checked(Due.joined(Due.row(0, 2), new int[16]));
        Due.bytes(x, zeros);
        Due.is("sixteen bytes of 0 are there", x.fault(1), NONE);
        Due.is("peek(1)", x.peek(1), 0);
        x.end(0);
        for (int k = 1; k <= 16; k++) {
            Due.is("feed " + k, x.feed(0, 0, 0, 0, 0), 20 * k);
            Due.is("count(1)", x.count(1), 20 * k);
        }
    }

    private static void feedMoreThan320() {
        Due.sentence("Promise 2", "NONE: more than 320.");
        for (int length = 299; length <= 320; length++) {
            GuisePack x = new GuisePack();
            for (int k = 0; k < 16; k++) {
                x.feed(1, 1, 1, 1, 1);
            }
            x.end(length);
            Due.is("feed behind " + length, x.feed(2, 2, 2, 2, 2), length <= 300 ? length + 20 : NONE);
            Due.is("count(1) then", x.count(1), length <= 300 ? length + 20 : length);
        }
        // The 320th byte is there: forty clauses of eight signs.
        GuisePack x = new GuisePack();
        Due.sign(x, times(39, "-12.125;") + "-12.1257");
        Due.is("count(1)", x.count(1), 320);
        Due.is("feed of a 321st", x.feed(0, 0, 0, 0, 0), NONE);
        Due.is("text of 320 bytes", x.text(), 40);
        Due.is("its last VALUE", x.value(39), Due.bits(-12.1257));
    }

    // ---- Promise 3 ----

    private static void endFirstBytesAlone() {
        Due.sentence("Promise 3", "The TAPE has its first n bytes alone.");
        GuisePack x = new GuisePack();
        Due.is("end(0) of nothing", x.end(0), true);
        Due.sign(x, "1;23;456");
        Due.is("end of all", x.end(8), true);
        Due.is("count(1)", x.count(1), 8);
        Due.is("end(7)", x.end(7), true);
        Due.is("count(1)", x.count(1), 7);
        Due.is("text", x.text(), 3);
        Due.values("the first seven", x, Due.bits(1), Due.bits(23), Due.bits(45));
        // What was cut off is gone: what is fed then comes behind the first n.
        Due.sign(x, "1;23;456");
        Due.is("end(3)", x.end(3), true);
        x.feed(0x393b3720, 0x20202020, 0x20202020, 0x20202020, 0x20202020);
        Due.is("text", x.text(), 3);
        Due.values("bytes behind the first three", x, Due.bits(1), Due.bits(29), Due.bits(7));
        Due.sign(x, "1");
        Due.is("end(0)", x.end(0), true);
        Due.is("count(1)", x.count(1), 0);
        Due.is("fault(0) of nothing", x.fault(0), 0);
    }

    private static void endFalse() {
        Due.sentence("Promise 3", "False: n.");
        GuisePack x = new GuisePack();
        int[] lengths = {0, 1, 20, 320};
        for (int length : lengths) {
            Due.bytes(x, new int[length]);
            Due.is("end(" + (length + 1) + ") of " + length, x.end(length + 1), false);
            Due.is("end(-1) of " + length, x.end(-1), false);
            Due.is("end of the greatest number", x.end(Integer.MAX_VALUE), false);
            Due.is("end of the least number", x.end(Integer.MIN_VALUE), false);
            Due.is("count(1)", x.count(1), length);
            Due.is("end(" + length + ")", x.end(length), true);
        }
        // What end cut off is not there any more.
        x.end(10);
        Due.is("end(11) of ten", x.end(11), false);
    }

    // ---- Promise 4 ----

    private static void faultOfNoSuchSort() {
        Due.sentence("Promise 4", "-2: no such sort.");
        GuisePack x = new GuisePack();
        int[] sorts = {-1, -2, 2, 3, 256, Integer.MAX_VALUE, Integer.MIN_VALUE};
        for (int sort : sorts) {
            Due.is("fault(" + sort + ") of nothing", x.fault(sort), -2);
        }
        Due.sign(x, "1");
        for (int sort : sorts) {
            Due.is("fault(" + sort + ") of a TEXT", x.fault(sort), -2);
        }
        Due.sentence("Promise 4", "The FAULT of the TAPE as a COLUMN (0), a BLOCK (1). NONE: none.");
        Due.is("fault(0) of a TEXT", x.fault(0), NONE);
        Due.is("fault(1) of a TEXT", x.fault(1), 0);
        Due.bytes(x, Due.checked(Due.joined(Due.row(0, 1), Due.eight(1))));
        Due.is("fault(0) of a BLOCK", x.fault(0), 0);
        Due.is("fault(1) of a BLOCK", x.fault(1), NONE);
        x.end(0);
        Due.is("fault(0) of nothing", x.fault(0), 0);
        Due.is("fault(1) of nothing", x.fault(1), 0);
    }

    // ---- Terms: TEXT ----

    private static void clausesOneAtLeast() {
        Due.sentence("Terms", "A COLUMN is a TEXT: CLAUSES with ; between, one at least");
        Due.fault("", 0);
        Due.fault(" ", 1);
        Due.fault(";", 0);
        Due.fault(" ;", 1);
        Due.fault("1", NONE);
        Due.fault("s", NONE);
        Due.fault(";1", 0);
        Due.fault("1;", 2);
        Due.fault("1;;1", 2);
        Due.fault("s;", 2);
        Due.fault("s;;s", 2);
        Due.fault("1;2", NONE);
        Due.fault("1:2", 1);
        Due.fault("1,2", 1);
        Due.fault("12;34", NONE);
        Due.fault("ii", 1);
        Due.fault("in", 1);
        Due.fault("1i", 1);
        Due.fault("1s", 1);
        Due.fault("1-1", 1);
        Due.fault("1x1", 1);
        Due.fault("x1-", 2);
        Due.fault("ss", 1);
        Due.fault("s1", 1);
        Due.fault("si", 1);
    }

    private static void rulesOneAtMost() {
        Due.sentence("Terms", "s (its RULES; one at most); FAULT: a second s");
        Due.fault("s;s", 2);
        Due.fault("sb4;s", 4);
        Due.fault("s;sb4", 2);
        Due.fault("s;1;s", 4);
        Due.fault("1;s;2;s", 6);
        Due.fault("s; s", 3);
        Due.fault("s;1;2;3;", 8);
        Due.fault("s;1;2;3;s", 8);
    }

    private static void rulesAnywhere() {
        Due.sentence("Terms", "VALUES (none to 40), in any order");
        for (int size = 0; size <= 40; size++) {
            for (int at = 0; at <= size; at += size < 6 ? 1 : 13) {
                StringBuilder text = new StringBuilder();
                for (int i = 0; i <= size; i++) {
                    text.append(i == at ? "sb5;" : "").append(i < size ? (i % 10) + ";" : "");
                }
                text.setLength(text.length() - 1);
                GuisePack x = Due.told(text.toString());
                Due.is("VALUES of " + text, x.count(0), size);
                Due.is("BLOCK of " + text, x.rule(0), 5);
                for (int i = 0; i < size; i++) {
                    Due.is("value(" + i + ") of " + text, x.value(i), Due.bits(i % 10));
                }
            }
        }
    }

    private static void itemsNoneOrMore() {
        Due.sentence("Terms", "s with ITEMS, none or more: a letter, each once at most, and a number");
        // All rows of places: every choice and order of the five letters.
        for (int code = 0; code < 6 * 6 * 6 * 6 * 6; code++) {
            StringBuilder text = new StringBuilder("s");
            int[] due = WITHOUT.clone();
            boolean[] seen = new boolean[5];
            int left = code;
            boolean fits = true;
            for (int k = 0; k < 5; k++) {
                int rule = left % 6;
                left /= 6;
                if (rule < 5 && !seen[rule]) {
                    seen[rule] = true;
                    due[rule] = HIGHEST[rule] - 1;
                    text.append(LETTERS.charAt(rule)).append(due[rule]);
                } else if (rule < 5) {
                    fits = false;
                }
            }
            if (fits) {
                GuisePack x = Due.told(text.toString());
                for (int rule = 0; rule < 5; rule++) {
                    Due.is("rule(" + rule + ") of " + text, x.rule(rule), due[rule]);
                }
            }
        }
    }

    private static void eachLetterOnce() {
        Due.sentence("Terms", "a letter, each once at most; FAULT: a letter that was there");
        for (int k = 0; k < 5; k++) {
            char letter = LETTERS.charAt(k);
            String one = "" + letter + HIGHEST[k];
            Due.fault("s" + one + letter, 1 + one.length());
            Due.fault("s" + one + one, 1 + one.length());
            Due.fault("s" + one + " " + one, 2 + one.length());
            // Out of bounds as well: the letter is wrong ahead of it.
            Due.fault("s" + one + letter + "99", 1 + one.length());
            char other = LETTERS.charAt((k + 1) % 5);
            String two = one + other + HIGHEST[(k + 1) % 5];
            Due.fault("s" + two + letter + "4", 1 + two.length());
        }
        Due.fault("sb4m4e4l4d4", NONE);
        Due.fault("sb4m4e4l4d4b4", 11);
        Due.fault("sb4m4e4l4d4d4", 11);
        // Letters of an s that is gone again don't count.
        GuisePack x = Due.told("sb4m4e4l4d4");
        Due.sign(x, "sb5m5e5l5d5");
        Due.is("text once more", x.text(), 0);
        Due.is("rule(0)", x.rule(0), 5);
        Due.is("rule(4)", x.rule(4), 5);
    }

    private static void numbersOfItems() {
        Due.sentence("Terms",
            "b (2 .. 16), m (1 .. 16), e (0 .. 14), l (4 .. 16), d (1 .. 8); FAULT: a number out of bounds at its last digit");
        for (int k = 0; k < 5; k++) {
            for (int number = 0; number <= 99; number++) {
                boolean bound = number >= LOWEST[k] && number <= HIGHEST[k];
                for (int digits = number < 10 ? 1 : 2; digits <= 2; digits++) {
                    String text = "s" + LETTERS.charAt(k) + (digits == 2 && number < 10 ? "0" : "") + number;
                    Due.fault(text, bound ? NONE : 1 + digits);
                    Due.fault(text + ";1", bound ? NONE : 1 + digits);
                    Due.fault("1;" + text + ";1", bound ? NONE : 3 + digits);
                    if (bound) {
                        Due.is("rule(" + k + ") of " + text, Due.told(text).rule(k), number);
                    }
                }
            }
        }
        Due.sentence("Terms", "a number (one or two digits)");
        Due.fault("sb", 2);
        Due.fault("sb;", 2);
        Due.fault("sbm4", 2);
        Due.fault("sb-4", 2);
        Due.fault("sb.4", 2);
        Due.fault("sbx4", 2);
        Due.fault("sb4.5", 3);
        Due.fault("sb4x", 3);
    }

    private static void thirdDigits() {
        Due.sentence("Terms", "FAULT: a third digit itself, whatever stands ahead of it");
        for (int k = 0; k < 5; k++) {
            String letter = "s" + LETTERS.charAt(k);
            Due.fault(letter + "041", 4);
            Due.fault(letter + "004", 4);
            Due.fault(letter + "000", 4);
            Due.fault(letter + "171", 4);
            Due.fault(letter + "999", 4);
            Due.fault(letter + "9999;1", 4);
            Due.fault(letter + "040;", 4);
            // A blank ends the number: two digits are looked at by themselves then.
            Due.fault(letter + "99 9", 3);
            Due.fault(letter + "04 1", 5);
        }
    }

    private static void numbersWithout() {
        Due.sentence("Terms", "b BLOCK (8 without), m SAMPLE (4), e TOP (10), l HIGH (12), d DICTIONARY (4)");
        String[] texts = {"1", "s", "s;1", "1;s"};
        for (String text : texts) {
            GuisePack x = Due.told(text);
            for (int k = 0; k < 5; k++) {
                Due.is("rule(" + k + ") of " + text, x.rule(k), WITHOUT[k]);
            }
        }
        for (int k = 0; k < 5; k++) {
            StringBuilder all = new StringBuilder("s");
            for (int j = 0; j < 5; j++) {
                all.append(j == k ? "" : "" + LETTERS.charAt(j) + 5);
            }
            GuisePack x = Due.told(all.toString());
            for (int j = 0; j < 5; j++) {
                Due.is("rule(" + j + ") of " + all, x.rule(j), j == k ? WITHOUT[k] : 5);
            }
        }
    }

    private static void namedValues() {
        Due.sentence("Terms", "i (infinite), n (MISSING: 7ff8 and twelve 0 as bits), both with a - ahead or without");
        Due.values("i;-i;n;-n", Due.told("i;-i;n;-n"),
            0x7ff0000000000000L, 0xfff0000000000000L, 0x7ff8000000000000L, 0xfff8000000000000L);
        Due.fault("--i", 1);
        Due.fault("i-", 1);
        Due.fault("I", 0);
        Due.fault("N", 0);
        Due.fault("-I", 1);
    }

    private static void hexValues() {
        Due.sentence("Terms", "x and one to sixteen of 0 .. 9, a .. f: its 64 bits, the last one last");
        String signs = "fedcba9876543210";
        for (int many = 0; many <= 18; many++) {
            String text = "x" + (signs + "ab").substring(0, many);
            Due.fault(text, many == 0 ? 1 : many <= 16 ? NONE : 17);
            Due.fault(text + ";1", many == 0 ? 1 : many <= 16 ? NONE : 17);
            if (many >= 1 && many <= 16) {
                Due.values(text, Due.told(text), Long.parseUnsignedLong(signs.substring(0, many), 16));
            }
        }
        Due.values("zeros ahead", Due.told("x0000000000000001;x0;x00;x8000000000000000;xffffffffffffffff"),
            1, 0, 0, MINUS, -1);
        for (int k = 0; k < 16; k++) {
            Due.values("each sign", Due.told("x" + Integer.toHexString(k)), k);
        }
        Due.fault("-x1", 1);
        Due.fault("x-1", 1);
        Due.fault("xx1", 1);
        Due.fault("X1", 0);
        Due.fault("x1.5", 2);
        Due.sentence("Terms", "FAULT: a seventeenth sign behind x");
        Due.fault("x" + times(17, "0"), 17);
        Due.fault("x" + times(17, "f"), 17);
        Due.fault("x" + times(16, "f") + ";", 18);
    }

    private static void digitValues() {
        Due.sentence("Terms", "a - or none, one to nine digits, then perhaps . and one to nine digits");
        Due.fault("-", 1);
        Due.fault("-;", 1);
        Due.fault("--1", 1);
        Due.fault("+1", 0);
        Due.fault(".5", 0);
        Due.fault("-.5", 1);
        Due.fault("1.", 2);
        Due.fault("1.;", 2);
        Due.fault("1..5", 2);
        Due.fault("1.-5", 2);
        Due.fault("1.5.5", 3);
        Due.fault("1.5-", 3);
        Due.fault("1e5", 1);
        Due.sentence("Terms", "FAULT: of VALUES a tenth digit ahead of the . or behind it");
        for (int ahead = 0; ahead <= 11; ahead++) {
            for (String sign : new String[] {"", "-"}) {
                String text = sign + "123456789012".substring(0, ahead);
                int start = sign.length();
                Due.fault(text, ahead == 0 ? start : ahead <= 9 ? NONE : start + 9);
                Due.fault(text + ".5", ahead == 0 ? start : ahead <= 9 ? NONE : start + 9);
                for (int behind = 0; ahead >= 1 && ahead <= 9 && behind <= 11; behind++) {
                    int point = start + ahead;
                    Due.fault(text + "." + "123456789012".substring(0, behind),
                        behind == 0 ? point + 1 : behind <= 9 ? NONE : point + 10);
                }
            }
        }
        Due.fault("0000000000", 9);
        Due.fault("0.0000000000", 11);
        Due.fault("000000000.000000000", NONE);
    }

    private static void digitsAsOneWholeNumber() {
        Due.sentence("Terms", "all digits as one whole number, as a number in double precision, by TEN of how many stand behind the .");
        Due.values("by hand", Due.told("0.1;0.3;1.5;-2.25;100;0.000000001;999999999;12.50;007"),
            0x3fb999999999999aL, 0x3fd3333333333333L, 0x3ff8000000000000L, 0xc002000000000000L, 0x4059000000000000L,
            0x3e112e0be826d695L, 0x41cdcd64ff800000L, 0x4029000000000000L, 0x401c000000000000L);
        // The whole number is rounded first, then by TEN: the nearest number to the decimal is another one.
        Due.values("rounded twice", Due.told("403028637.776120748;042608894.139359115;-900727173.168956974"),
            0x41b805ba9dc6afdaL, 0x41845147f11d684fL, 0xc1cad800c295a061L);
        Due.values("all nines", Due.told("999999999.999999999;0.999999999"),
            Due.bits(1e18 / 1e9), Due.bits(999999999.0 / 1e9));
        Due.sentence("Terms", "TEN of 0 without one");
        Due.values("without a point", Due.told("123456789;1"), Due.bits(123456789), Due.bits(1));
        Due.sentence("Terms", "with a - its sign turned about");
        Due.values("signs", Due.told("-1;-0;-0.0;0.000;-000000000.000000000"),
            Due.bits(-1), MINUS, MINUS, 0, MINUS);
    }

    /** Blanks at each place of a TEXT: . it is well made, < the blank is wrong, > the sign behind it. */
    private static void blanksBetweenSigns() {
        Due.sentence("Terms", "Blanks (32) may stand between all signs but within numbers, behind -, x and around the . of a VALUE.");
        String text = "sb8m16;-1.25;x0f;-n;i";
        String due = ".....>..<><>..<>..<...";
        for (int many = 1; many <= 3; many++) {
            for (int at = 0; at <= text.length(); at++) {
                String told = text.substring(0, at) + times(many, " ") + text.substring(at);
                char kind = due.charAt(at);
                Due.fault(told, kind == '.' ? NONE : kind == '<' ? at : at + many);
            }
        }
        GuisePack x = Due.told("  s  b  8  m  16  ;  -1.25  ;  x0f  ;  -n  ;  i  ");
        Due.values("blanks at all places", x, Due.bits(-1.25), 15, 0xfff8000000000000L, 0x7ff0000000000000L);
        Due.is("rule(0)", x.rule(0), 8);
        Due.is("rule(1)", x.rule(1), 16);
        // A number that a blank ends is looked at as it stands there.
        Due.fault("sb1 6", 2);
        Due.fault("sl1 6", 2);
        Due.fault("1 .5", 2);
        Due.fault("1. 5", 2);
        Due.fault("1 5", 2);
        Due.fault("- i", 1);
        Due.fault("- 1", 1);
        Due.fault("x 1", 1);
    }

    private static void noOtherBlanks() {
        Due.sentence("Terms", "Blanks (32)");
        int[] others = {0, 9, 10, 11, 12, 13, 31, 33, 95, 133, 160};
        for (int other : others) {
            String sign = "" + (char) other;
            Due.fault(sign + "1", 0);
            Due.fault("1" + sign, 1);
            Due.fault("1" + sign + ";2", 1);
            Due.fault("1;" + sign + "2", 2);
            Due.fault("s" + sign + "b4", 1);
            Due.fault("sb" + sign + "4", 2);
            Due.fault("sb4" + sign + "m4", 3);
            Due.fault("sb4" + sign, 3);
        }
    }

    /** Each byte behind each of these: where no TEXT can go on. */
    private static void firstByteThatCannotGoOn() {
        Due.sentence("Terms", "FAULT: the first byte at which no such TEXT can go on");
        for (int octet = 0; octet < 256; octet++) {
            String c = "" + (char) octet;
            boolean digit = octet >= '0' && octet <= '9';
            boolean hex = digit || octet >= 'a' && octet <= 'f';
            boolean open = octet == 'x' || octet == '-' || octet == ' ';
            boolean end = octet == ' ';
            boolean more = octet == ';';
            boolean letter = LETTERS.indexOf(octet) >= 0;
            boolean whole = octet == 'i' || octet == 'n' || digit;
            Due.fault(c, whole || octet == 's' ? NONE : open ? 1 : 0);
            Due.fault("1;" + c, whole || octet == 's' ? NONE : open ? 3 : 2);
            Due.fault("s;" + c, whole ? NONE : open ? 3 : 2);
            Due.fault("1" + c, digit || end ? NONE : more || octet == '.' ? 2 : 1);
            Due.fault("1 " + c, end ? NONE : more ? 3 : 2);
            Due.fault("1." + c, digit ? NONE : 2);
            Due.fault("1.5" + c, digit || end ? NONE : more ? 4 : 3);
            Due.fault("-" + c, whole ? NONE : 1);
            Due.fault("i" + c, end ? NONE : more ? 2 : 1);
            Due.fault("n" + c, end ? NONE : more ? 2 : 1);
            Due.fault("x" + c, hex ? NONE : 1);
            Due.fault("x1" + c, hex || end ? NONE : more ? 3 : 2);
            Due.fault("s" + c, end ? NONE : more || letter ? 2 : 1);
            Due.fault("sb" + c, digit && octet >= '2' ? NONE : end ? 3 : 2);
            Due.fault("sb4" + c, end ? NONE : more || letter && octet != 'b' ? 4 : 3);
            Due.fault("sb1" + c, digit && octet <= '6' ? NONE : digit ? 3 : 2);
            Due.fault("sb16" + c, end ? NONE : more || letter && octet != 'b' ? 5 : 4);
        }
    }

    /** Each start of a TEXT: . it is well made itself, ! it ends too early. */
    private static void tooEarlyAnEnd() {
        Due.sentence("Terms", "FAULT: (the length, if it ends too early)");
        String text = "sb8m16e10d8l16;-1.25;x0f;-n;i;0.0;s";
        String due = "!.!.!..!..!.!?.!!.!..!!..!!.!.!.!.!!";
        for (int many = 0; many < text.length(); many++) {
            char kind = due.charAt(many);
            // l and 1 alone is out of bounds: wrong at its last digit.
            Due.fault(text.substring(0, many), kind == '.' ? NONE : kind == '?' ? many - 1 : many);
        }
        Due.fault(text, text.length() - 1);
        Due.fault("1; ", 3);
        Due.fault("sb  ", 4);
        Due.fault("s ;", 3);
    }

    private static void numberAtTheEnd() {
        Due.sentence("Terms", "a number at the text's end is looked at as it stands there");
        Due.fault("sb1", 2);
        Due.fault("sb0", 2);
        Due.fault("sb2", NONE);
        Due.fault("sm0", 2);
        Due.fault("sm1", NONE);
        Due.fault("se0", NONE);
        Due.fault("sl1", 2);
        Due.fault("sl3", 2);
        Due.fault("sl4", NONE);
        Due.fault("sd0", 2);
        Due.fault("sd8", NONE);
        Due.fault("sd9", 2);
        Due.fault("sb4m0", 4);
        Due.fault("1;sb1", 4);
        Due.fault(times(40, "1;") + "sb1", 82);
        Due.fault("sb1 ", 2);
    }

    private static void fortyFirstValue() {
        Due.sentence("Terms", "FAULT: the first sign of a 41st VALUE");
        String[] clauses = {"1", "-1", "x1", "i", "n", "-i", "-n", "0.5", "x", "-", "123456789", "q", ";", "-x"};
        for (String clause : clauses) {
            Due.fault(times(40, "1;") + clause, 80);
            Due.fault(times(40, "1;") + " " + clause, 81);
            Due.fault("s;" + times(40, "1;") + clause, 82);
            Due.fault(times(39, "1;") + "s;1;" + clause, 82);
        }
        Due.fault(times(39, "1;") + "1", NONE);
        Due.fault(times(39, "1;") + "-", 79);
        Due.fault(times(39, "1;"), 78);
        Due.fault(times(40, "1;"), 80);
        Due.fault(times(40, "1;") + "s", NONE);
        Due.fault(times(40, "1;") + "sb4", NONE);
        Due.fault(times(40, "1;") + "sb", 82);
        Due.fault(times(40, "1;") + "  sb4", NONE);
        Due.is("forty VALUES", Due.told(times(40, "1;") + "s").count(0), 40);
        Due.is("forty VALUES behind s", Due.told("s;" + times(39, "1;") + "1").count(0), 40);
    }

    private static void behindFortyAndRules() {
        Due.sentence("Terms",
            "behind 40 VALUES and the RULES a ; may still stand; what comes behind it is wrong then, the text's end, too");
        String[] full = {"s;" + times(39, "1;") + "1", times(40, "1;") + "s", times(20, "1;") + "s;" + times(19, "1;") + "1"};
        for (String text : full) {
            Due.is("how long", text.length(), 81);
            Due.fault(text, NONE);
            Due.fault(text + " ", NONE);
            Due.fault(text + ";", 82);
            Due.fault(text + ";1", 82);
            Due.fault(text + ";-1", 82);
            Due.fault(text + ";s", 82);
            Due.fault(text + ";;", 82);
            Due.fault(text + ";q", 82);
            Due.fault(text + " ;1", 83);
            Due.fault(text + " ;", 83);
            // Blanks may stand there as between all signs: what comes behind them is wrong.
            Due.fault(text + "; ", 83);
            Due.fault(text + ";  1", 84);
            Due.fault(text + "q", 81);
        }
    }

    private static void bytesOfZeroAreNoSigns() {
        Due.sentence("Promise 4", "bytes of 0 are no signs");
        GuisePack x = new GuisePack();
        x.feed(0x31000000, 0, 0, 0, 0);
        Due.is("fault(0) of 1 and bytes of 0", x.fault(0), 1);
        Due.is("text", x.text(), NONE);
        x.end(2);
        Due.is("fault(0) of 1 and one byte of 0", x.fault(0), 1);
        x.end(1);
        Due.is("fault(0) of 1", x.fault(0), NONE);
        Due.fault("" + (char) 0, 0);
        Due.fault("" + (char) 0 + "1", 0);
        Due.fault("1" + (char) 0 + "2", 1);
        Due.fault("1;" + (char) 0, 2);
        Due.fault("s" + (char) 0, 1);
        Due.fault("sb4" + (char) 0, 3);
        Due.fault("x" + (char) 0, 1);
        Due.fault("-" + (char) 0, 1);
        Due.fault("1." + (char) 0, 2);
        Due.fault(" " + (char) 0, 1);
    }

    // ---- Promise 5 ----

    private static void textIsTheColumn() {
        Due.sentence("Promise 5", "The TAPE (empty then) is the COLUMN: how many VALUES.");
        for (int size = 1; size <= 40; size++) {
            GuisePack x = new GuisePack();
            Due.sign(x, times(size - 1, "7;") + "7");
            Due.is("text of " + size, x.text(), size);
            Due.is("count(0)", x.count(0), size);
            Due.is("the TAPE is empty", x.count(1), 0);
        }
        GuisePack x = new GuisePack();
        Due.sign(x, "s");
        Due.is("text of none", x.text(), 0);
        Due.is("a COLUMN without VALUES is one", x.most(0), 0);
        Due.is("text of the empty TAPE", x.text(), NONE);
        Due.is("it is still the COLUMN", x.rule(0), 8);
    }

    private static void allThatWasIsGone() {
        Due.sentence("Promise 5", "all that was of another one is gone but STATUS");
        GuisePack x = Due.told("sb3m3e3l5d3;1.5;2;n;4");
        x.add(1);
        x.put(0, 2);
        x.image();
        x.drop();
        x.put(9, 9);
        x.set(0, 99);
        x.set(0, 3);
        Due.bytes(x, 5, 5);
        x.take();
        for (int k = 0; k < 64; k++) {
            x.add(k);
        }
        x.write(0);
        Due.is("STATUS 3 ahead of it", x.status(3), 4);
        Due.sign(x, "6;7");
        Due.is("text", x.text(), 2);
        Due.values("VALUES", x, Due.bits(6), Due.bits(7));
        for (int k = 0; k < 5; k++) {
            Due.is("rule(" + k + ")", x.rule(k), WITHOUT[k]);
        }
        Due.is("what was written", x.count(2), 0);
        Due.is("octet(0)", x.octet(0), NONE);
        Due.is("the LOG", x.count(3), 0);
        Due.is("log(0, 0)", x.log(0, 0), GuisePack.HIDDEN);
        Due.is("ACTS that can be UNDONE", x.count(4), 0);
        Due.is("undo", x.undo(), NONE);
        Due.is("the IMAGE", x.back(), NONE);
        Due.is("count(0)", x.count(0), 2);
        int[] status = {1, 1, 1, 4, 1};
        for (int k = 0; k < 5; k++) {
            Due.is("status(" + k + ")", x.status(k), status[k]);
        }
        Due.is("most(0)", x.most(0), 1);
        Due.is("guise(0, 0, 0)", x.guise(0, 0, 0), 6);
        Due.is("about(0, 6)", x.about(0, 6), 0);
    }

    private static void textOfAFault() {
        Due.sentence("Promise 5", "NONE: a FAULT (the TAPE stays).");
        GuisePack x = Due.told("sb3;1;2");
        Due.sign(x, "sb5;7;8;");
        Due.is("text", x.text(), NONE);
        Due.is("the TAPE stays", x.count(1), 8);
        Due.is("its FAULT stays", x.fault(0), 8);
        Due.values("the COLUMN stays", x, Due.bits(1), Due.bits(2));
        Due.is("BLOCK stays", x.rule(0), 3);
        x.end(7);
        Due.is("text of what is well made", x.text(), 2);
        Due.is("BLOCK", x.rule(0), 5);
        GuisePack none = new GuisePack();
        Due.sign(none, "1;;");
        Due.is("text of a FAULT on a new object", none.text(), NONE);
        Due.is("no COLUMN still", none.most(0), GuisePack.HIDDEN);
        Due.is("no STATUS of it", none.status(4), 0);
    }

    // ---- Promises 6 and 7 ----

    private static void ruleAsNow() {
        Due.sentence("Promise 6", "A RULE (0 .. 4) as now. NONE: no COLUMN, no such one.");
        GuisePack x = new GuisePack();
        for (int what = -1; what <= 5; what++) {
            Due.is("rule(" + what + ") without COLUMN", x.rule(what), NONE);
        }
        Due.sign(x, "sb2m3e4l5d6");
        x.text();
        int[] due = {NONE, 2, 3, 4, 5, 6, NONE};
        for (int what = -1; what <= 5; what++) {
            Due.is("rule(" + what + ")", x.rule(what), due[what + 1]);
        }
        Due.is("rule of the greatest number", x.rule(Integer.MAX_VALUE), NONE);
        Due.is("rule of the least number", x.rule(Integer.MIN_VALUE), NONE);
        x.set(2, 14);
        Due.is("rule(2) as now", x.rule(2), 14);
        x.undo();
        Due.is("rule(2) as it is again", x.rule(2), 4);
    }

    private static void valueOfNoSuchOne() {
        Due.sentence("Promise 7", "The bits of a VALUE. NoSuchElementException: no such one.");
        int[] places = {0, 1, -1, 63, 64, Integer.MAX_VALUE, Integer.MIN_VALUE};
        GuisePack x = new GuisePack();
        for (int place : places) {
            Due.noValue(x, place);
        }
        Due.sign(x, "s");
        x.text();
        for (int place : places) {
            Due.noValue(x, place);
        }
        x.add(-5);
        Due.is("value(0)", x.value(0), -5);
        Due.noValue(x, 1);
        Due.noValue(x, -1);
        for (int k = 1; k < 64; k++) {
            x.add(k);
            Due.is("value(" + k + ")", x.value(k), k);
            Due.noValue(x, k + 1);
        }
        x.drop();
        Due.noValue(x, 63);
        Due.is("value(62)", x.value(62), 62);
    }
}
