/** Promises 5 (whole), 6 (real), 17 (kind), 18 (value), 19 (part). */
public final class GivenNumbersTest {
    private static final double TOP = 0x1p100;

    public static void main(String[] args) {
        wholes();
        reals();
        noReals();
        parts();
        Bench.end("GivenNumbersTest");
    }

    private static void wholes() {
        Bench t = new Bench();
        long[] some = {0, 1, -1, 42, 1L << 30, -(1L << 60), Long.MAX_VALUE, Long.MIN_VALUE};
        for (int i = 0; i < some.length; i++) {
            Bench.due("whole", t.x.whole(i, some[i]), true);
            Bench.due("held", t.held(i), "0 " + some[i]);
        }
        Bench.due("whole(-1)", t.x.whole(-1, 5), false);
        Bench.due("whole(8)", t.x.whole(8, 5), false);
        Bench.due("whole over another kind", t.x.real(0, 2.5) && t.x.whole(0, 9), true);
        Bench.due("kind", t.x.kind(0), 0);
        Bench.due("value of a WHOLE", t.x.value(0), 0.0);
        Bench.due("value of no register", t.x.value(8), 0.0);
        t.with(0, "3/2");
        Bench.due("value of a RATIO", t.x.value(0), 0.0);
        Bench.due("kind of a RATIO", t.x.kind(0), 1);
    }

    private static void reals() {
        double[] some = {
            0.0, 1.0, -1.0, 0.1, -3.4, 1.0 / 3.0, TOP - 0x1p47, -(TOP - 0x1p47), 0x1p-100, -0x1p-100,
            0x1.0000000000001p-100, 0x1.fffffffffffffp99, 9007199254740993.0, 0x1p53, 0x1p52, 0x1p99
        };
        for (double v : some) {
            Bench t = new Bench();
            Bench.due("real(" + v + ")", t.x.real(7, v), true);
            Bench.due("value", t.x.value(7), v);
            Bench.due("kind", t.x.kind(7), 2);
            Bench.due("real in no register", t.x.real(8, v), false);
        }
        Bench t = new Bench();
        Bench.due("real(-0.0)", t.x.real(1, -0.0), true);
        Bench.due("no -0.0", 1.0 / t.x.value(1), Double.POSITIVE_INFINITY);
        Bench.due("shown", t.shown(1), "0.0");
        Bench.due("added", t.x.whole(2, 5) && t.x.real(3, 0.0) && t.x.combine(0, 2, 3, 4) == 2, true);
        Bench.due("5 and 0.0", t.held(4), "2 5.0");
    }

    private static void noReals() {
        double[] none = {
            TOP, -TOP, 0x1.fffffffffffffp-101, 0x1p-101, -0x1p-101, Double.MIN_VALUE, -Double.MIN_VALUE,
            Double.MIN_NORMAL, Double.MAX_VALUE, Double.POSITIVE_INFINITY, Double.NEGATIVE_INFINITY, Double.NaN
        };
        Bench t = new Bench();
        t.x.whole(2, 6);
        for (double v : none) {
            Bench.due("real(" + v + ")", t.x.real(2, v), false);
        }
        Bench.due("unchanged", t.held(2), "0 6");
    }

    private static void parts() {
        Bench t = new Bench().with(0, "-0x123456789abcdeffedcba987654321");
        Bench.due("low bits", t.x.part(0, false, 0), 0xfedcba987654321L);
        Bench.due("high bits", t.x.part(0, false, 1), 0x123456789abcdefL);
        Bench.due("below of a WHOLE", t.x.part(0, true, 0), 1);
        Bench.due("below of a WHOLE, high", t.x.part(0, true, 1), 0);
        Bench.due("another k", t.x.part(0, false, 2), -1);
        Bench.due("another k", t.x.part(0, true, -1), -1);
        t.with(1, "-1/1329227995784915872903807060280344575");
        Bench.due("upper", t.x.part(1, false, 0), 1);
        Bench.due("upper, high", t.x.part(1, false, 1), 0);
        Bench.due("lower", t.x.part(1, true, 0), (1L << 60) - 1);
        Bench.due("lower, high", t.x.part(1, true, 1), (1L << 60) - 1);
        t.with(2, "6/4");
        Bench.due("in lowest terms", t.x.part(2, false, 0) * 10 + t.x.part(2, true, 0), 32);
        t.x.real(3, 5.0);
        Bench.due("of a REAL", t.x.part(3, false, 0), -1);
        Bench.due("of a REAL, below", t.x.part(3, true, 0), -1);
        t.x.whole(4, 0);
        Bench.due("of 0", t.x.part(4, false, 0), 0);
        Bench.due("of no register", t.x.part(8, false, 0), -1);
    }
}
