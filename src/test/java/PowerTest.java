/** Promise 8: power, modulo m. */
public final class PowerTest {
    private static final String MOST = "1329227995784915872903807060280344575";

    public static void main(String[] args) {
        powers();
        inverses();
        moduloOne();
        wrongCalls();
        Bench.end("PowerTest");
    }

    private static void power(String x, String y, String m, String want) {
        Bench t = new Bench().with(0, x).with(1, y).with(2, m);
        String answer = Bench.outcome(() -> t.x.power(0, 1, 2, 3));
        Bench.due(x + "^" + y + " mod " + m, answer.equals("0") ? t.shown(3) : answer, want);
        if (!answer.equals("0")) {
            Bench.due("register 3", t.held(3), "none");
        }
    }

    private static void powers() {
        power("3", "4", "7", "4");
        power("-3", "3", "7", "1");
        power("-7", "1", "7", "0");
        power("2", "0", "7", "1");
        power("0", "0", "7", "1");
        power("0", "5", "7", "0");
        power("2", "999", "1000000007", "344211605");
        power(MOST, "999", "1000000007", "305034577");
        power("3", "999", MOST, "127873453045098692996533433735324217");
        power("-" + MOST, "1", "1000", "425");
    }

    private static void inverses() {
        power("3", "-1", "7", "5");
        power("-3", "-1", "7", "2");
        power("3", "-2", "7", "4");
        power("10", "-1", "7", "5");
        power("2", "-999", "1000000007", "727020400");
        power("1", "-999", "10", "1");
        power("2", "-1", "4", Bench.AE);
        power("0", "-1", "7", Bench.AE);
        power("7", "-1", "7", Bench.AE);
        power("6", "-999", "9", Bench.AE);
        power("2", "-1", MOST, "664613997892457936451903530140172288");
    }

    private static void moduloOne() {
        power("5", "3", "1", "0");
        power("5", "0", "1", "0");
        power("0", "0", "1", "0");
        power("5", "-3", "1", "0");
        power("0", "-1", "1", "0");
    }

    private static void wrongCalls() {
        power("2", "1000", "7", Bench.IAE);
        power("2", "-1000", "7", Bench.IAE);
        power("2", MOST, "7", Bench.IAE);
        power("2", "1073741829", "7", Bench.IAE);
        power("2", "3", "0", Bench.IAE);
        power("2", "3", "-7", Bench.IAE);
        power("2.0", "3", "7", Bench.IAE);
        power("2/1", "3", "7", Bench.IAE);
        power("2", "3.0", "7", Bench.IAE);
        power("2", "3", "7/1", Bench.IAE);
        power("2", "3", "7.0", Bench.IAE);
        // the exponent is looked at before the inverse
        power("2", "-1000", "4", Bench.IAE);
        Bench t = new Bench().with(0, "2").with(1, "3").with(2, "7");
        int[][] wrong = {{4, 1, 2, 3}, {0, 4, 2, 3}, {0, 1, 4, 3}, {8, 1, 2, 3}, {0, -1, 2, 3}, {0, 1, 8, 3},
            {0, 1, 2, 8}, {0, 1, 2, -1}};
        for (int[] w : wrong) {
            Bench.due("power" + java.util.Arrays.toString(w),
                    Bench.outcome(() -> t.x.power(w[0], w[1], w[2], w[3])), Bench.IAE);
        }
        Bench.due("to may be m", Bench.outcome(() -> t.x.power(0, 1, 2, 2)), 0);
        Bench.due("held", t.held(2), "0 1");
    }
}
