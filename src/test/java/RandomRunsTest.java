import java.util.ArrayList;
import java.util.Arrays;
import java.util.List;
import java.util.NoSuchElementException;
import java.util.Random;

/**
 * Runs of calls made by chance from fixed seeds, each answer compared with that of Model.
 * Arguments: the first seed and how many (without: what .ci/run asks for).
 */
public final class RandomRunsTest {
    private static final long[] SPECIAL = {
        0L, Long.MIN_VALUE, 1L, -1L, 0x7ff0000000000000L, 0xfff0000000000000L, 0x7ff8000000000000L,
        0xfff8000000000000L, 0x7ff0000000000001L, 0x7fefffffffffffffL, 0xffefffffffffffffL,
        0x000fffffffffffffL, 0x0010000000000000L, 0x8000000000000001L, 0x4320000000000000L, 0xc320000000000000L,
        0x431fffffffffffffL, 0xc31fffffffffffffL, 0x3ff0000000000000L, 0x7fe0000000000000L, 0x0010000000000001L};

    private final long seed;
    private final Random random;
    private final GuisePack pack = new GuisePack();
    private final Model model = new Model();
    private int calls = 0;
    private int style = 0;
    private boolean wrong = false;

    private RandomRunsTest(long seed) {
        this.seed = seed;
        this.random = new Random(seed);
    }

    public static void main(String[] args) {
        long first = args.length > 0 ? Long.parseLong(args[0]) : 1;
        int many = args.length > 1 ? Integer.parseInt(args[1]) : 240;
        int wrong = 0;
        for (long seed = first; seed < first + many; seed++) {
            wrong += new RandomRunsTest(seed).run() ? 0 : 1;
        }
        System.out.println(wrong == 0 ? "all " + many + " runs are as due" : wrong + " runs are not as due");
        if (wrong != 0) {
            System.exit(1);
        }
    }

    private void due(String call, long got, long due) {
        calls++;
        if (got != due && !wrong) {
            wrong = true;
            System.out.println("seed " + seed + ", call " + calls + ": " + call + " answered " + got + ", due is " + due);
        }
    }

    private boolean run() {
        // What one step asks may be 150 calls: an object answers 512.
        while (calls < 360 && !wrong) {
            int which = random.nextInt(100);
            if (calls == 0 || which < 4) {
                tellColumn();
            } else if (which < 8) {
                giveBlock();
            } else if (which < 45) {
                act();
            } else if (which < 48) {
                tapeCall();
            } else {
                ask();
            }
        }
        return !wrong;
    }

    // ---- what is told ----

    private void tellColumn() {
        style = random.nextInt(7);
        give(bytesOf(madeText()));
        due("fault(0) of \"" + shown() + "\"", pack.fault(0), model.fault(0));
        due("text() of \"" + shown() + "\"", pack.text(), model.text());
        countAll();
    }

    private String shown() {
        StringBuilder text = new StringBuilder();
        model.tapeNow().forEach(octet -> text.append((char) (int) octet));
        return text.toString();
    }

    private String blanks() {
        return random.nextInt(12) == 0 ? " ".repeat(1 + random.nextInt(2)) : "";
    }

    private String madeText() {
        List<String> clauses = new ArrayList<>();
        int size = random.nextInt(4) == 0 ? 38 + random.nextInt(4) : random.nextInt(25);
        StringBuilder length = new StringBuilder();
        for (int i = 0; i < size && length.length() < 290; i++) {
            String value = size > 37 ? shortValue() : madeValue();
            clauses.add(value);
            length.append(value).append(';');
        }
        if (random.nextInt(3) > 0 || clauses.isEmpty()) {
            clauses.add(random.nextInt(clauses.size() + 1), madeRules());
        }
        if (random.nextInt(25) == 0) {
            clauses.add(random.nextInt(clauses.size() + 1), madeRules());
        }
        StringBuilder text = new StringBuilder();
        for (int i = 0; i < clauses.size(); i++) {
            text.append(i == 0 ? "" : ";").append(blanks()).append(clauses.get(i)).append(blanks());
        }
        return spoilt(text);
    }

    private String shortValue() {
        String[] some = {"1", "n", "i", "-n", ".5", "2.5", "-0", "x7", "17"};
        return some[random.nextInt(random.nextInt(4) == 0 ? some.length : 2)];
    }

    private String spoilt(StringBuilder text) {
        String signs = "sbmeldnix-.;: 0123456789af;;;" + (char) 0 + (char) 233 + "ABS+";
        int spoils = random.nextInt(3) == 0 ? 1 + random.nextInt(2) : 0;
        for (int k = 0; k < spoils && text.length() > 0; k++) {
            int at = random.nextInt(text.length());
            char sign = signs.charAt(random.nextInt(signs.length()));
            switch (random.nextInt(4)) {
                case 0 -> text.setCharAt(at, sign);
                case 1 -> text.insert(at, sign);
                case 2 -> text.deleteCharAt(at);
                default -> text.setLength(at);
            }
        }
        return text.length() > 320 ? text.substring(0, 320) : text.toString();
    }

    private String madeRules() {
        StringBuilder text = new StringBuilder("s");
        List<Integer> rules = new ArrayList<>(List.of(0, 1, 2, 3, 4));
        int items = random.nextInt(6);
        for (int k = 0; k < items; k++) {
            int rule = rules.remove(random.nextInt(rules.size()));
            int number = Model.LOW[rule] + random.nextInt(Model.TOP[rule] - Model.LOW[rule] + 1);
            number = random.nextInt(40) == 0 ? random.nextInt(100) : number;
            text.append(blanks()).append(Model.LETTERS.charAt(rule)).append(blanks());
            text.append(number < 10 && random.nextInt(4) == 0 ? "0" : "").append(number);
        }
        return text.toString();
    }

    private String madeValue() {
        switch (style == 6 ? random.nextInt(6) : style) {
            case 0: return decimal(3, 2);
            case 1: return decimal(9, 9);
            case 2: return decimal(5, 0);
            case 3: return "x" + Long.toHexString(someBits());
            case 4: return new String[] {"i", "-i", "n", "-n", "0", "-0", "-0.00", "x1", "1.5"}[random.nextInt(9)];
            default: return random.nextInt(5) == 0 ? "x" + Long.toHexString(someBits()) : decimal(2, 3);
        }
    }

    private String digits(int most) {
        StringBuilder text = new StringBuilder();
        int count = 1 + random.nextInt(most);
        for (int i = 0; i < count; i++) {
            text.append((char) ('0' + random.nextInt(10)));
        }
        return text.toString();
    }

    private String decimal(int ahead, int behind) {
        String sign = random.nextInt(3) == 0 ? "-" : "";
        return sign + digits(ahead) + (behind > 0 && random.nextInt(4) > 0 ? "." + digits(behind) : "");
    }

    private long someBits() {
        switch (random.nextInt(6)) {
            case 0: return SPECIAL[random.nextInt(SPECIAL.length)];
            case 1: return random.nextLong();
            case 2: return Double.doubleToRawLongBits((random.nextInt(20001) - 10000) / 100.0);
            case 3: return Double.doubleToRawLongBits((double) (random.nextLong() >> random.nextInt(64)));
            case 4: return Double.doubleToRawLongBits(random.nextInt(1000) * 1e-9);
            default:
                List<Long> values = model.columnNow() == null ? List.of() : model.columnNow().values();
                return values.isEmpty() ? 5L : values.get(random.nextInt(values.size()));
        }
    }

    private void give(int[] bytes) {
        due("end(0)", pack.end(0) ? 1 : 0, model.end(0) ? 1 : 0);
        for (int from = 0; from < bytes.length; from += 20) {
            int[] five = new int[5];
            for (int i = 0; i < 20; i++) {
                five[i / 4] = five[i / 4] << 8 | (from + i < bytes.length ? bytes[from + i] & 255 : 0);
            }
            due("feed(" + Model.show(five) + ")", pack.feed(five[0], five[1], five[2], five[3], five[4]), model.feed(five));
        }
        due("end", pack.end(bytes.length) ? 1 : 0, model.end(bytes.length) ? 1 : 0);
    }

    private static int[] bytesOf(String text) {
        return text.chars().toArray();
    }

    private void giveBlock() {
        give(madeBlock());
        due("fault(1) of " + model.tapeNow(), pack.fault(1), model.fault(1));
        for (int i = 0; i < 3; i++) {
            int place = random.nextInt(18) - 1;
            due("peek(" + place + ")", pack.peek(place), model.peek(place));
        }
        if (random.nextInt(3) > 0) {
            due("take()", pack.take(), model.take());
            countAll();
        }
    }

    private int[] madeBlock() {
        List<Long> values = new ArrayList<>();
        int size = 1 + random.nextInt(16);
        for (int i = 0; i < size; i++) {
            values.add(someBits());
        }
        List<Integer> rules = List.of(16, 4, 14, 4 + random.nextInt(13), 1 + random.nextInt(8));
        Model.Column column = new Model.Column(values, rules, List.of());
        List<Model.Pair> pairs = Model.pairs(14);
        Model.Pair pair = pairs.get(random.nextInt(pairs.size()));
        int form = random.nextInt(3);
        List<Integer> bytes = form == 0 ? Model.writeRaw(values)
            : form == 1 ? Model.writeDecimal(values, pair) : Model.writeSplit(column, values);
        if (random.nextInt(4) == 0) {
            bytes = anyDecimal();
        }
        return spoiltBlock(new ArrayList<>(bytes.subList(0, bytes.size() - 1)));
    }

    /** Well made, but as no write would make it: any BASE, WIDTH and bits. */
    private List<Integer> anyDecimal() {
        int size = 1 + random.nextInt(16);
        int width = random.nextInt(54);
        int e = random.nextInt(15);
        List<Integer> bytes = new ArrayList<>(List.of(1, size, e, random.nextInt(e + 1), 0));
        for (int i = 0; i < 8; i++) {
            bytes.add(random.nextInt(256));
        }
        bytes.add(width);
        for (int i = 0; i < (size * width + 7) / 8; i++) {
            boolean last = i == (size * width + 7) / 8 - 1;
            int filling = last ? (8 - size * width % 8) % 8 : 0;
            bytes.add(random.nextInt(256) >> filling << filling);
        }
        bytes.add(0);
        return bytes;
    }

    private int[] spoiltBlock(List<Integer> bytes) {
        int spoils = random.nextInt(2) == 0 ? 1 + random.nextInt(2) : 0;
        for (int k = 0; k < spoils && !bytes.isEmpty(); k++) {
            int at = random.nextInt(random.nextInt(2) == 0 ? bytes.size() : Math.min(bytes.size(), 16));
            switch (random.nextInt(5)) {
                case 0 -> bytes.set(at, random.nextInt(256));
                case 1 -> bytes.set(at, bytes.get(at) ^ 1 << random.nextInt(8));
                case 2 -> bytes.set(at, (bytes.get(at) + 1) & 255);
                case 3 -> bytes.remove(at);
                default -> bytes.subList(at, bytes.size()).clear();
            }
        }
        if (random.nextInt(10) > 0) {
            bytes.add(random.nextInt(12) == 0 ? random.nextInt(256) : Model.check(bytes));
        }
        if (random.nextInt(15) == 0) {
            bytes.add(random.nextInt(3));
        }
        return bytes.stream().mapToInt(octet -> octet).limit(320).toArray();
    }

    private void tapeCall() {
        int[] five = {random.nextInt(), random.nextInt(), random.nextInt(), random.nextInt(), random.nextInt()};
        int most = random.nextInt(6) == 0 ? 18 : 1;
        for (int i = 0; i < most; i++) {
            due("feed", pack.feed(five[0], five[1], five[2], five[3], five[4]), model.feed(five));
        }
        int n = random.nextInt(345) - 10;
        due("end(" + n + ")", pack.end(n) ? 1 : 0, model.end(n) ? 1 : 0);
        for (int sort = -1; sort <= 2; sort++) {
            due("fault(" + sort + ")", pack.fault(sort), model.fault(sort));
        }
    }

    // ---- ACTS ----

    private int place() {
        return random.nextInt(12) == 0 ? random.nextInt(80) - 8 : random.nextInt(Math.max(1, model.count(0)) + 1);
    }

    private void act() {
        int i = place();
        int j = place();
        switch (random.nextInt(12)) {
            case 0, 1, 2, 3 -> {
                long bits = someBits();
                due("add(" + bits + ")", pack.add(bits), model.add(bits));
            }
            case 4, 5 -> {
                long bits = someBits();
                due("put(" + i + ", " + bits + ")", pack.put(i, bits), model.put(i, bits));
            }
            case 6 -> due("drop()", pack.drop(), model.drop());
            case 7 -> due("swap(" + i + ", " + j + ")", pack.swap(i, j), model.swap(i, j));
            case 8, 9 -> {
                int what = random.nextInt(7) - 1;
                int v = random.nextInt(19) - 1;
                due("set(" + what + ", " + v + ")", pack.set(what, v), model.set(what, v));
            }
            case 10 -> {
                int times = random.nextInt(8) == 0 ? 45 : 1 + random.nextInt(3);
                for (int k = 0; k < times; k++) {
                    due("undo()", pack.undo(), model.undo());
                }
            }
            default -> {
                if (random.nextInt(3) > 0) {
                    due("image()", pack.image(), model.image());
                } else {
                    due("back()", pack.back(), model.back());
                }
            }
        }
        if (random.nextInt(6) == 0) {
            countAll();
        }
    }

    private void countAll() {
        for (int what = -1; what <= 5; what++) {
            due("count(" + what + ")", pack.count(what), model.count(what));
        }
        for (int why = -1; why <= 5; why++) {
            due("status(" + why + ")", pack.status(why), model.status(why));
        }
    }

    // ---- questions ----

    private void ask() {
        if (random.nextInt(2) == 0) {
            askValue();
        } else if (random.nextInt(3) > 0) {
            askBlock();
        } else {
            askColumn();
        }
    }

    private void askValue() {
        int i = place();
        int j = place();
        int e = random.nextInt(17) - 1;
        int f = random.nextInt(Math.max(1, e + 2)) - (random.nextInt(9) == 0 ? 1 : 0);
        int what = random.nextInt(9) - 1;
        switch (random.nextInt(9)) {
            case 0 -> due("value(" + i + ")", valueOrHidden(i), model.value(i) == null ? 99 : model.value(i));
            case 1, 2, 3 -> due("about(" + i + ", " + what + ")", pack.about(i, what), model.about(i, what));
            case 4 -> due("guise(" + i + ", " + e + ", " + f + ")", pack.guise(i, e, f), model.guise(i, e, f));
            case 5 -> due("near(" + i + ", " + j + ")", pack.near(i, j), model.near(i, j));
            case 6 -> due("less(" + i + ")", pack.less(i), model.less(i));
            default -> {
                int back = random.nextInt(8) == 0 ? random.nextInt(70) - 2 : random.nextInt(5);
                int which = random.nextInt(5) - 1;
                due("log(" + back + ", " + which + ")", pack.log(back, which), model.log(back, which));
            }
        }
    }

    private long valueOrHidden(int i) {
        try {
            return pack.value(i);
        } catch (NoSuchElementException e) {
            return 99;
        }
    }

    private void askBlock() {
        int k = random.nextInt(8) == 0 ? random.nextInt(40) - 2 : random.nextInt(4);
        int e = random.nextInt(17) - 1;
        int f = random.nextInt(Math.max(1, e + 2)) - (random.nextInt(9) == 0 ? 1 : 0);
        int what = random.nextInt(10) - 1;
        switch (random.nextInt(8)) {
            case 0 -> due("cost(" + k + ", " + e + ", " + f + ")", pack.cost(k, e, f), model.cost(k, e, f));
            case 1 -> due("score(" + e + ", " + f + ")", pack.score(e, f), model.score(e, f));
            case 2 -> due("five(" + what + ")", pack.five(what), model.five(what));
            case 3, 4 -> due("block(" + k + ", " + what + ")", pack.block(k, what), model.block(k, what));
            case 5 -> due("whole(" + k + ", " + what + ")", pack.whole(k, what), model.whole(k, what));
            case 6 -> due("part(" + k + ", " + what + ")", pack.part(k, what), model.part(k, what));
            default -> {
                due("write(" + k + ")", pack.write(k), model.write(k));
                int[] got = new int[model.count(2)];
                int[] want = new int[got.length];
                for (int i = 0; i < got.length; i++) {
                    got[i] = pack.octet(i);
                    want[i] = model.octet(i);
                }
                calls += got.length;
                due("octets " + Arrays.toString(got) + " for " + Arrays.toString(want),
                    Arrays.equals(got, want) ? 1 : 0, 1);
                due("octet(" + got.length + ")", pack.octet(got.length), model.octet(got.length));
            }
        }
    }

    private void askColumn() {
        int what = random.nextInt(16) - 1;
        int v = random.nextInt(19) - 1;
        int few = random.nextInt(4) - 1;
        int rule = random.nextInt(7) - 1;
        switch (random.nextInt(12)) {
            case 0 -> due("common(" + few + ")", pack.common(few), model.common(few));
            case 1, 2 -> due("sum(" + few + ")", pack.sum(few), model.sum(few));
            case 3, 4 -> due("saved(" + rule + ", " + v + ")", pack.saved(rule, v), model.saved(rule, v));
            case 5 -> due("alone(" + few + ")", pack.alone(few), model.alone(few));
            case 6 -> due("rule(" + rule + ")", pack.rule(rule), model.rule(rule));
            case 7 -> {
                if (random.nextInt(6) == 0) {
                    due("best(" + rule + ")", pack.best(rule), model.best(rule));
                }
            }
            default -> due("most(" + what + ")", pack.most(what), model.most(what));
        }
    }
}
