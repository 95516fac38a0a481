/** README.md's example answers as it says. */
public final class ReadmeTest {
    private ReadmeTest() {
    }

    public static void main(String[] args) {
        GuisePack x = new GuisePack();
        Due.is("feed", x.feed(0x73623420, 0x3b312e35, 0x3b2d322e, 0x353b3700, 0), 20);
        Due.is("end(15)", x.end(15), true);
        Due.is("fault(0)", x.fault(0), -1);
        Due.is("text()", x.text(), 3);
        Due.is("the TAPE", x.count(1), 0);
        Due.is("value(0)", x.value(0), 0x3ff8000000000000L);
        Due.is("guise(0, 1, 0)", x.guise(0, 1, 0), 15);
        Due.is("block(0, 1)", x.block(0, 1), 1);
        Due.is("write(0)", x.write(0), 18);
        Due.is("octet(0)", x.octet(0), 1);
        Due.is("octet(18)", x.octet(18), GuisePack.NONE);
        Due.is("add", x.add(0x7ff8000000000000L), 3);
        Due.is("undo", x.undo(), 0);
        Due.noValue(x, 3);
        clauses();
        Due.finish();
    }

    private static void clauses() {
        GuisePack x = Due.told("s b4 e14;1.5;-0;i;-i;n;-n;x7ff8000000000001");
        Due.is("VALUES", x.count(0), 7);
        Due.is("rule(0)", x.rule(0), 4);
        Due.is("rule(2)", x.rule(2), 14);
        Due.is("-0", x.value(1), 0x8000000000000000L);
        Due.is("bits", x.value(6), 0x7ff8000000000001L);
    }
}
