/** Promise 10 (round) and ROUNDING: each sentence at its bounds. */
public final class EdgesOfRoundTest {
    private static final String MOST = Bench.MOST;
    private static final String IAE = Bench.IAE;
    private static final String ISE = Bench.ISE;

    public static void main(String[] args) {
        ofTwoTheEvenMultiple();
        aBitMoreOrLessThanHalf();
        fromMinus20To20Places();
        ofXsKind();
        ofARealTheNearest();
        beyond();
        noSuchPlaces();
        noSuchRegister();
        toMayBeA();
        Bench.end("EdgesOfRoundTest");
    }

    private static void round(String a, int n, String want) {
        Bench.dueRounded(a, n, want);
    }

    private static void ofTwoTheEvenMultiple() {
        String[][] ofWholes = {{"5", "0"}, {"15", "20"}, {"25", "20"}, {"35", "40"}, {"95", "100"}, {"105", "100"},
            {"-5", "0"}, {"-15", "-20"}, {"-25", "-20"}, {"-35", "-40"}};
        for (String[] s : ofWholes) {
            round(s[0], -1, "0 " + s[1]);
            round(s[0] + "/1", -1, "1 " + s[1]);
            round(s[0] + ".0", -1, "2 " + s[1] + ".0");
        }
        String[][] ofHalves = {{"1", "0"}, {"3", "2"}, {"5", "2"}, {"7", "4"}, {"9", "4"}, {"-1", "0"}, {"-3", "-2"},
            {"-5", "-2"}};
        for (String[] s : ofHalves) {
            round(s[0] + "/2", 0, "1 " + s[1]);
            Bench t = new Bench();
            t.x.real(0, Integer.parseInt(s[0]) / 2.0);
            t.duePut(s[0] + " halves", () -> t.x.round(0, 0, 3), "2 " + s[1] + ".0");
        }
        round("1/8", 2, "1 3/25");
        round("3/8", 2, "1 19/50");
        round("-1/8", 2, "1 -3/25");
        round("0.125", 2, "2 0.12");
        round("0.375", 2, "2 0.38");
        round("-0.625", 2, "2 -0.62");
        round("1/20", 1, "1 0");
        round("3/20", 1, "1 1/5");
    }

    private static void aBitMoreOrLessThanHalf() {
        round("4", -1, "0 0");
        round("6", -1, "0 10");
        round("50", -2, "0 0");
        round("51", -2, "0 100");
        round("149", -2, "0 100");
        round("150", -2, "0 200");
        round("250", -2, "0 200");
        round("251", -2, "0 300");
        round("5000001/10000000", 0, "1 1");
        round("4999999/10000000", 0, "1 0");
        round("0x1.0000000000001p-1", 0, "2 1.0");
        round("0x1.fffffffffffffp-2", 0, "2 0x0p0");
        // the REALS next to 2.675 and 1.005 are a bit less
        round("2.675", 2, "2 2.67");
        round("1.005", 2, "2 1.0");
        round("0.15", 1, "2 0.1");
        round("0.35", 1, "2 0.3");
        round("0.45", 1, "2 0.5");
    }

    private static void fromMinus20To20Places() {
        round("1/3", 20, "1 33333333333333333333/100000000000000000000");
        round("1/200000000000000000000", 20, "1 0");
        round("3/200000000000000000000", 20, "1 1/50000000000000000000");
        round("1/3", 19, "1 3333333333333333333/10000000000000000000");
        round("50000000000000000000", -20, "0 0");
        round("50000000000000000001", -20, "0 100000000000000000000");
        round("150000000000000000000", -20, "0 200000000000000000000");
        round("-150000000000000000000", -20, "0 -200000000000000000000");
        round("5000000000000000000", -19, "0 0");
        round("5000000000000000001", -19, "0 10000000000000000000");
        round("50000000000000000000/1", -20, "1 0");
        round("1e20", -20, "2 1e+20");
        round("1.5e20", -20, "2 2e+20");
        round("1e-20", 20, "2 1e-20");
        round("4e-21", 20, "2 0x0p0");
        round("6e-21", 20, "2 1e-20");
        round("0x1p-100", 20, "2 0x0p0");
        round("0x1p-100", -20, "2 0x0p0");
        round("0", -20, "0 0");
        round("0/1", 20, "1 0");
        round("0.0", -20, "2 0x0p0");
    }

    private static void ofXsKind() {
        String[] wholes = {"0", "7", "-7", "12345", MOST, "-" + MOST};
        int[] places = {0, 1, 2, 19, 20};
        for (String w : wholes) {
            for (int n : places) {
                round(w, n, "0 " + w);
            }
        }
        round("7/1", 0, "1 7");
        round("7/1", 20, "1 7");
        round("7/2", 20, "1 7/2");
        round("99/10", 0, "1 10");
        round("7.0", 0, "2 7.0");
        round("7.25", 20, "2 7.25");
        round("9.96", 1, "2 10.0");
        round("1/2", -1, "1 0");
        round("-1/2", -20, "1 0");
        for (int kind = 0; kind < 3; kind++) {
            Bench t = new Bench().with(0, new String[] {"-6", "-7/2", "-2.5"}[kind]);
            Bench.due("the kind answered", Bench.outcome(() -> t.x.round(0, 0, 1)), kind);
        }
    }

    private static void ofARealTheNearest() {
        round("0.1", 20, "2 0.1");
        round("0.1", 1, "2 0.1");
        round("0.3", 20, "2 0.3");
        round("0x1.5555555555555p-2", 17, "2 0.3333333333333333");
        round("0x1.5555555555555p-2", 5, "2 0.33333");
        round("123456.789", 1, "2 123456.8");
        round("123456.789", -3, "2 123000.0");
        round("1e22", -1, "2 1e+22");
        round("0x1p99", -20, "2 6.338253001e+29");
        round("0x1.fffffffffffffp99", 20, "2 0x1.fffffffffffffp99");
        round("0x1p-60", 20, "2 8.7e-19");
        round("9007199254740993.", -1, "2 9007199254740990.0");
    }

    private static void beyond() {
        round(MOST, -1, ISE);
        round("-" + MOST, -1, ISE);
        round("1329227995784915872903807060280344574", -1, "0 1329227995784915872903807060280344570");
        round(MOST, -2, ISE);
        round(MOST, -4, "0 1329227995784915872903807060280340000");
        round(MOST + "/1", -1, ISE);
        round("-1329227995784915872903807060280344574/1", -1, "1 -1329227995784915872903807060280344570");
        // with a lower part of 10^20: upper parts just below 2^120, and above
        round("39876839873547476/3", 20, "1 1329227995784915866666666666666666667/100000000000000000000");
        round("39876839873547477/3", 20, "1 13292279957849159");
        round("39876839873547478/3", 20, ISE);
        round("0x1.fffffffffffffp99", -15, "2 0x1.ffffffffffffdp99");
        round("0x1.fffffffffffffp99", -16, ISE);
        round("-0x1.fffffffffffffp99", -16, ISE);
        for (int to = 0; to < 8; to++) {
            int r = to;
            Witness.refused("round(5, -1, " + to + ")", x -> x.round(5, -1, r), ISE);
        }
        Witness.refused("round(5, -1, 8)", x -> x.round(5, -1, 8), IAE);
        Witness.refused("round(5, -21, 5)", x -> x.round(5, -21, 5), IAE);
    }

    private static void noSuchPlaces() {
        int[] wrong = {21, -21, 22, -22, 100, -100, Integer.MIN_VALUE, Integer.MAX_VALUE};
        for (int n : wrong) {
            for (int r = 0; r < 8; r++) {
                int a = r;
                Witness.refused("round(" + r + ", " + n + ", 0)", x -> x.round(a, n, 0), IAE);
            }
        }
    }

    private static void noSuchRegister() {
        int[] none = {-1, 8, 9, Integer.MIN_VALUE, Integer.MAX_VALUE};
        for (int r : none) {
            Witness.refused("round(" + r + ", 0, 0)", x -> x.round(r, 0, 0), IAE);
            Witness.refused("round(0, 0, " + r + ")", x -> x.round(0, 0, r), IAE);
        }
        Witness.refused("round(4, 0, 0)", x -> x.round(4, 0, 0), IAE);
        Witness.refused("round(4, 20, 4)", x -> x.round(4, 20, 4), IAE);
    }

    private static void toMayBeA() {
        Bench t = new Bench().with(0, "-15").with(1, "-7/2").with(2, "2.5");
        Bench.due("in place", t.x.round(0, -1, 0) + " " + t.held(0), "0 0 -20");
        Bench.due("in place", t.x.round(1, 0, 1) + " " + t.held(1), "1 1 -4");
        Bench.due("in place", t.x.round(2, 0, 2) + " " + t.held(2), "2 2 2.0");
        for (int to = 0; to < 8; to++) {
            int r = to;
            Witness.answered("round(1, 0, " + to + ")", x -> x.round(1, 0, r), 1, to);
            Witness.answered("round(0, 20, " + to + ")", x -> x.round(0, 20, r), 0, to);
        }
    }
}
