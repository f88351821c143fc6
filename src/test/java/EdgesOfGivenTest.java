/** Promises 5 (whole), 6 (real), 17 (kind), 18 (value) and 19 (part): each sentence at its bounds. */
public final class EdgesOfGivenTest {
    private static final int[] NO_REGISTER = {-1, 8, 9, 255, Integer.MIN_VALUE, Integer.MAX_VALUE};
    private static final long ALL_SIXTY = (1L << 60) - 1;

    public static void main(String[] args) {
        wholeInEachRegister();
        wholeOfEachSize();
        wholeInNoRegister();
        realInEachRegister();
        realFromTheLeastToTheGreatest();
        realThatIsNone();
        realInNoRegister();
        minusZeroIsZero();
        kindOfWhatIsThere();
        valueOfARealAlone();
        partsOfAWhole();
        partsOfARatio();
        partsThatAreNone();
        Bench.end("EdgesOfGivenTest");
    }

    private static void wholeInEachRegister() {
        for (int r = 0; r < 8; r++) {
            int to = r;
            Witness.answered("whole(" + r + ", 77)", x -> x.whole(to, 77) ? 1 : 0, 1, r);
            Bench t = new Bench();
            t.x.whole(r, -r);
            for (int other = 0; other < 8; other++) {
                Bench.due("register " + other, t.held(other), other == r ? "0 " + -r : "none");
            }
        }
    }

    private static void wholeOfEachSize() {
        long[] some = {0, 1, -1, 2, (1L << 30) - 1, 1L << 30, (1L << 60) - 1, 1L << 60, -(1L << 60), (1L << 62) + 1,
            Long.MAX_VALUE, -Long.MAX_VALUE, Long.MIN_VALUE, Long.MIN_VALUE + 1};
        for (long v : some) {
            Bench t = new Bench();
            Bench.due("whole(0, " + v + ")", t.x.whole(0, v), true);
            Bench.due("what is shown", t.shown(0), v);
            String again = t.read(1, Long.toString(v));
            Bench.due("the same by read", again + t.x.compare(0, 1), "00");
        }
        Bench t = new Bench();
        t.x.whole(0, Long.MIN_VALUE);
        Bench.due("bits 0 to 59 of the least long", t.x.part(0, false, 0), 0);
        Bench.due("bits 60 to 119 of the least long", t.x.part(0, false, 1), 8);
    }

    private static void wholeInNoRegister() {
        for (int r : NO_REGISTER) {
            Witness.answered("whole(" + r + ", 77)", x -> x.whole(r, 77) ? 1 : 0, 0, -1);
        }
    }

    private static void realInEachRegister() {
        for (int r = 0; r < 8; r++) {
            int to = r;
            Witness.answered("real(" + r + ", 0.75)", x -> x.real(to, 0.75) ? 1 : 0, 1, r);
            Bench t = new Bench();
            t.x.real(r, r + 0.5);
            for (int other = 0; other < 8; other++) {
                Bench.due("value(" + other + ")", t.x.value(other), other == r ? r + 0.5 : 0.0);
            }
        }
    }

    private static void dueReal(double v) {
        NumberTower x = new NumberTower();
        Bench.due("real(" + v + ")", x.real(0, v), true);
        Bench.due("its kind", x.kind(0), 2);
        Bench.due("its value", Double.toHexString(x.value(0)), Double.toHexString(v));
    }

    private static void realFromTheLeastToTheGreatest() {
        double[] amounts = {0x1p-100, 0x1.0000000000001p-100, 0x1.fffffffffffffp-100, 0x1p-99, 0x1p-53, 0.5, 1.0,
            0x1.fffffffffffffp-1, 0x1.0000000000001p0, 0x1p52, 0x1.fffffffffffffp52, 0x1p53, 0x1.0000000000001p53,
            0x1p63, 0x1p64, 0x1p98, 0x1.0000000000001p98, 0x1p99, 0x1.ffffffffffffep99, 0x1.fffffffffffffp99};
        for (double v : amounts) {
            dueReal(v);
            dueReal(-v);
        }
        dueReal(0.0);
    }

    private static void realThatIsNone() {
        double[] amounts = {0x1.fffffffffffffp-101, 0x1p-101, 0x1p-1000, Double.MIN_NORMAL, Double.MIN_VALUE, 0x1p100,
            0x1.0000000000001p100, 0x1p101, 1e300, Double.MAX_VALUE, Double.POSITIVE_INFINITY, Double.NaN};
        for (double v : amounts) {
            Witness.answered("real(0, " + v + ")", x -> x.real(0, v) ? 1 : 0, 0, -1);
            Witness.answered("real(2, -" + v + ")", x -> x.real(2, -v) ? 1 : 0, 0, -1);
            Witness.answered("real(4, " + v + ")", x -> x.real(4, v) ? 1 : 0, 0, -1);
        }
    }

    private static void realInNoRegister() {
        for (int r : NO_REGISTER) {
            Witness.answered("real(" + r + ", 0.75)", x -> x.real(r, 0.75) ? 1 : 0, 0, -1);
            Witness.answered("real(" + r + ", NaN)", x -> x.real(r, Double.NaN) ? 1 : 0, 0, -1);
        }
    }

    private static void minusZeroIsZero() {
        Bench t = new Bench();
        Bench.due("real(0, -0.0)", t.x.real(0, -0.0), true);
        Bench.due("value", Double.toHexString(t.x.value(0)), "0x0.0p0");
        Bench.due("kind", t.x.kind(0), 2);
        Bench.due("hash", t.x.hash(0), 0);
        Bench.due("show", t.shown(0), "0.0");
        Bench.due("format", t.formatted(0, "+.0f"), "+0");
        t.x.real(1, 0.0);
        Bench.due("compare", t.x.compare(0, 1), 0);
        Bench.due("it is 0 as a divisor", Bench.outcome(() -> t.x.combine(3, 1, 0, 2)), Bench.AE);
    }

    private static void kindOfWhatIsThere() {
        Bench t = new Bench();
        for (int r = -2; r < 10; r++) {
            Bench.due("kind(" + r + ") at first", t.x.kind(r), NumberTower.NONE);
        }
        t.with(0, "0").with(1, "0/1").with(2, "0.0").with(7, "2/1");
        int[] want = {0, 1, 2, -1, -1, -1, -1, 1};
        for (int r = 0; r < 8; r++) {
            Bench.due("kind(" + r + ")", t.x.kind(r), want[r]);
        }
        for (int r : NO_REGISTER) {
            Bench.due("kind(" + r + ")", t.x.kind(r), NumberTower.NONE);
        }
    }

    private static void valueOfARealAlone() {
        Bench t = new Bench().with(0, "5").with(1, "1/2").with(2, "-2.5").with(3, "0.0");
        String[] want = {"0x0.0p0", "0x0.0p0", "-0x1.4p1", "0x0.0p0", "0x0.0p0"};
        for (int r = 0; r < want.length; r++) {
            Bench.due("value(" + r + ")", Double.toHexString(t.x.value(r)), want[r]);
        }
        for (int r : NO_REGISTER) {
            Bench.due("value(" + r + ")", Double.toHexString(t.x.value(r)), "0x0.0p0");
        }
    }

    private static void parts(String number, long upper0, long upper1, long lower0, long lower1) {
        NumberTower x = new Bench().with(5, number).x;
        Bench.due("bits 0 to 59 of " + number, x.part(5, false, 0), upper0);
        Bench.due("bits 60 to 119 of " + number, x.part(5, false, 1), upper1);
        Bench.due("bits 0 to 59 below " + number, x.part(5, true, 0), lower0);
        Bench.due("bits 60 to 119 below " + number, x.part(5, true, 1), lower1);
    }

    private static void partsOfAWhole() {
        parts("0", 0, 0, 1, 0);
        parts("1", 1, 0, 1, 0);
        parts("-1", 1, 0, 1, 0);
        parts("0x7fffffffffffffff", ALL_SIXTY, 7, 1, 0);
        parts("0xfffffffffffffff", ALL_SIXTY, 0, 1, 0);
        parts("0x1000000000000000", 0, 1, 1, 0);
        parts("-0x1000000000000001", 1, 1, 1, 0);
        parts("0x800000000000000000000000000000", 0, 1L << 59, 1, 0);
        parts(Bench.MOST, ALL_SIXTY, ALL_SIXTY, 1, 0);
        parts("-" + Bench.MOST, ALL_SIXTY, ALL_SIXTY, 1, 0);
        parts("0x40000000", 1L << 30, 0, 1, 0);
    }

    private static void partsOfARatio() {
        parts("0/5", 0, 0, 1, 0);
        parts("-6/4", 3, 0, 2, 0);
        parts("8/2", 4, 0, 1, 0);
        parts("1/" + Bench.MOST, 1, 0, ALL_SIXTY, ALL_SIXTY);
        parts("-" + Bench.MOST + "/1", ALL_SIXTY, ALL_SIXTY, 1, 0);
        parts("3/1152921504606846976", 3, 0, 0, 1);
        parts("1152921504606846976/3", 0, 1, 3, 0);
    }

    private static void partsThatAreNone() {
        Bench t = new Bench().with(0, "5").with(1, "1/2").with(2, "2.5").with(3, "0.0");
        int[] others = {-1, 2, 3, 60, Integer.MIN_VALUE, Integer.MAX_VALUE};
        for (int k : others) {
            for (int r = 0; r < 5; r++) {
                Bench.due("part(" + r + ", false, " + k + ")", t.x.part(r, false, k), -1);
                Bench.due("part(" + r + ", true, " + k + ")", t.x.part(r, true, k), -1);
            }
        }
        for (int k = 0; k < 2; k++) {
            for (int r = 2; r < 5; r++) {
                Bench.due("part of no WHOLE or RATIO", t.x.part(r, false, k), -1);
                Bench.due("part below of none", t.x.part(r, true, k), -1);
            }
            for (int r : NO_REGISTER) {
                Bench.due("part of no register", t.x.part(r, false, k), -1);
                Bench.due("part below of no register", t.x.part(r, true, k), -1);
            }
        }
    }
}
