/** Promises 14 (show) and 16 (letter), and SHOWING. */
public final class ShowTest {
    public static void main(String[] args) {
        wholesAndRatios();
        reals();
        agreesWithRoundTrips();
        letters();
        whatIsLeft();
        Bench.end("ShowTest");
    }

    private static void show(String text, String want) {
        Bench.due("show of " + text, new Bench().with(0, text).shown(0), want);
    }

    private static void wholesAndRatios() {
        show("0", "0");
        show("-17", "-17");
        show("1000000000", "1000000000");
        show("1329227995784915872903807060280344575", "1329227995784915872903807060280344575");
        show("-6/4", "-3/2");
        show("-6/3", "-2");
        show("0/7", "0");
        show("1/1329227995784915872903807060280344575", "1/1329227995784915872903807060280344575");
    }

    private static void reals() {
        show("0.0", "0.0");
        show("1.0", "1.0");
        show("-0.1", "-0.1");
        show("100.0", "100.0");
        show("123.456", "123.456");
        show("0.0001", "0.0001");
        show("0.00012", "0.00012");
        show("0.00001", "1e-05");
        show("0.000012", "1.2e-05");
        show("1e15", "1000000000000000.0");
        show("9999999999999998.0", "9999999999999998.0");
        show("1e16", "1e+16");
        show("12345678901234567.", "1.2345678901234568e+16");
        show("5e-30", "5e-30");
        show("1e30", "1e+30");
        show("1e22", "1e+22");
        show("1e23", "1e+23");
        show("9.999999999999999e22", "1e+23");
        show("1.0000000000000001e23", "1.0000000000000001e+23");
        show("2.0e-3", "0.002");
        // the bounds of a power of 2 are not equally far off
        show("9007199254740992.0", "9007199254740992.0");
        show("9.671406556917033e24", "9.671406556917033e+24");
        show("1.2676506002282293e30", "1.2676506002282293e+30");
        show("7.888609052210118e-31", "7.888609052210118e-31");
        // just between two REALS the NEAREST is the even one
        show("18014398509482008.0", "1.801439850948201e+16");
        show("18014398509482028.0", "1.8014398509482028e+16");
        show("18014398509481992.0", "1.801439850948199e+16");
        show("18014398509482012.0", "1.8014398509482012e+16");
        // of two that are equally near the even one
        show("1125899906842624.25", "1125899906842624.2");
        show("1125899906842624.75", "1125899906842624.8");
        show("-1125899906842625.25", "-1125899906842625.2");
    }

    /** No shorter text reads as the same REAL, and what is shown does. */
    private static void agreesWithRoundTrips() {
        long seed = 12345;
        for (int i = 0; i < 2000; i++) {
            Bench t = new Bench();
            seed = seed * 6364136223846793005L + 1442695040888963407L;
            int exponent = (int) (seed >>> 33) % 90;
            long bits = seed >>> 11 & (1L << 52) - 1;
            double v = Double.longBitsToDouble((long) (exponent + 1023) << 52 | (i % 5 == 0 ? 0 : bits));
            if (!t.x.real(0, v)) {
                Bench.due("real(" + v + ")", false, true);
            }
            String shown = t.shown(0);
            Bench.due("shown " + shown, Double.parseDouble(shown), v);
            int digits = new java.math.BigDecimal(shown).stripTrailingZeros().precision();
            java.math.BigDecimal exact = new java.math.BigDecimal(v);
            for (java.math.RoundingMode mode : new java.math.RoundingMode[] {
                    java.math.RoundingMode.FLOOR, java.math.RoundingMode.CEILING}) {
                if (digits > 1) {
                    java.math.BigDecimal shorter = exact.round(new java.math.MathContext(digits - 1, mode));
                    Bench.due("a shorter one, " + shorter, shorter.doubleValue() == v, false);
                }
            }
        }
    }

    private static void letters() {
        Bench t = new Bench().with(0, "-17");
        Bench.due("letter before any sheet", t.x.letter(0), -1);
        Bench.due("show", t.x.show(0), 3);
        Bench.due("letter(0)", t.x.letter(0), (int) '-');
        Bench.due("letter(2)", t.x.letter(2), (int) '7');
        int[] none = {-1, 3, 4, 40, 200, Integer.MIN_VALUE, Integer.MAX_VALUE};
        for (int k : none) {
            Bench.due("letter(" + k + ")", t.x.letter(k), -1);
        }
    }

    private static void whatIsLeft() {
        Bench t = new Bench().with(0, "12");
        t.x.show(0);
        int[] none = {1, 8, -1};
        for (int r : none) {
            Bench.due("show(" + r + ")", Bench.outcome(() -> t.x.show(r)), Bench.IAE);
        }
        Bench.due("the sheet stays", t.sheet(), "12");
        t.x.whole(0, 5);
        Bench.due("the sheet is what was shown", t.sheet(), "12");
        t.line("7");
        t.x.show(0);
        Bench.due("the line stays", Bench.outcome(() -> t.x.read(1)), 0);
        Bench.due("a shorter sheet", t.sheet(), "5");
    }
}
