/** Promise 8 (power): each sentence at its bounds. */
public final class EdgesOfPowerTest {
    private static final String MOST = Bench.MOST;
    private static final String IAE = Bench.IAE;
    private static final String AE = Bench.AE;

    public static void main(String[] args) {
        zeroToMLessOne();
        yFromMinus999To999();
        yBelowZero();
        noSuchNumber();
        yZero();
        moduloOne();
        theGreatestModulus();
        wholesAlone();
        mAboveZero();
        registers();
        toMayBeAnyOfThem();
        theOrderOfExceptions();
        Bench.end("EdgesOfPowerTest");
    }

    private static void power(String x, String y, String m, String want) {
        Bench t = new Bench().with(0, x).with(1, y).with(2, m);
        String due = want.startsWith("throws.") ? want : "0 " + want;
        t.duePut(x + "^" + y + " modulo " + m, () -> t.x.power(0, 1, 2, 3), due);
    }

    private static void zeroToMLessOne() {
        for (int m = 1; m <= 7; m++) {
            for (int x = -8; x <= 8; x++) {
                for (int y = 0; y <= 4; y++) {
                    long want = 1 % m;
                    for (int i = 0; i < y; i++) {
                        want = Math.floorMod(want * x, (long) m);
                    }
                    power("" + x, "" + y, "" + m, "" + want);
                }
            }
        }
        power("-1", "1", "7", "6");
        power("-1", "2", "7", "1");
        power("7", "3", "7", "0");
        power("0", "1", "7", "0");
    }

    private static void yFromMinus999To999() {
        power("2", "999", "1000003", "" + powerByLongs(2, 999, 1000003));
        power("3", "998", "1000003", "" + powerByLongs(3, 998, 1000003));
        power("2", "-999", "1000003", "" + powerByLongs(500002, 999, 1000003));
        power("2", "-998", "1000003", "" + powerByLongs(500002, 998, 1000003));
        power("2", "512", "1000003", "" + powerByLongs(2, 512, 1000003));
        power("2", "511", "1000003", "" + powerByLongs(2, 511, 1000003));
        String[] wrong = {"1000", "-1000", "1001", "-1001", "1024", "1073741824", "1073742823", "-1073741825",
            "1152921504606846976", "1152921504606846977", "4294967297", "18446744073709551617", MOST, "-" + MOST};
        for (String y : wrong) {
            power("2", y, "7", IAE);
            power("1", y, "1", IAE);
            power("0", y, "4", IAE);
        }
    }

    private static long powerByLongs(long x, int y, long m) {
        long p = 1;
        for (int i = 0; i < y; i++) {
            p = p * x % m;
        }
        return p;
    }

    private static void yBelowZero() {
        for (int m = 1; m <= 12; m++) {
            for (int x = -13; x <= 13; x++) {
                long inverse = -1;
                for (int i = 0; i < m; i++) {
                    inverse = Math.floorMod((long) x * i, (long) m) == 1 % m ? i : inverse;
                }
                for (int y = 1; y <= 3; y++) {
                    String want = inverse < 0 ? AE : "" + powerByLongs(inverse, y, m);
                    power("" + x, "-" + y, "" + m, want);
                }
            }
        }
    }

    private static void noSuchNumber() {
        power("0", "-1", "2", AE);
        power("0", "-999", MOST, AE);
        power("2", "-1", "4", AE);
        power("-2", "-1", "4", AE);
        power("4", "-1", "2", AE);
        power("7", "-5", "7", AE);
        power("14", "-5", "7", AE);
        power(MOST, "-1", MOST, AE);
        power("3", "-1", MOST, AE);
        power("1", "-1", "2", "1");
    }

    private static void yZero() {
        power("5", "0", "7", "1");
        power("0", "0", "7", "1");
        power("7", "0", "7", "1");
        power("2", "0", "4", "1");
        power("-5", "0", "2", "1");
        power(MOST, "0", MOST, "1");
        power("5", "0", "1", "0");
        power("0", "0", "1", "0");
    }

    private static void moduloOne() {
        String[] xs = {"0", "1", "-1", "5", "-5", MOST, "-" + MOST};
        String[] ys = {"0", "1", "-1", "2", "-2", "999", "-999"};
        for (String x : xs) {
            for (String y : ys) {
                power(x, y, "1", "0");
            }
        }
    }

    private static void theGreatestModulus() {
        java.math.BigInteger m = new java.math.BigInteger(MOST);
        String[] xs = {"2", "-2", "7", "1329227995784915872903807060280344574", "664613997892457936451903530140172288",
            "-1152921504606846977", "1000000000000000000000000000000000007"};
        int[] ys = {1, -1, 2, -2, 500, 999, -999};
        for (String x : xs) {
            for (int y : ys) {
                java.math.BigInteger v = new java.math.BigInteger(x);
                boolean none = y < 0 && !v.gcd(m).equals(java.math.BigInteger.ONE);
                power(x, "" + y, MOST, none ? AE : "" + v.modPow(java.math.BigInteger.valueOf(y), m));
            }
        }
    }

    private static void wholesAlone() {
        String[] others = {"2/1", "2.0", "1/2", "0.5"};
        for (String other : others) {
            power(other, "3", "7", IAE);
            power("3", other, "7", IAE);
            power("3", "2", other, IAE);
            power(other, other, other, IAE);
        }
        power("3", "0/1", "7", IAE);
        power("3", "0.0", "7", IAE);
        power("3", "0", "1/1", IAE);
        power("3", "0", "1.0", IAE);
    }

    private static void mAboveZero() {
        String[] wrong = {"0", "-1", "-2", "-7", "-" + MOST};
        for (String m : wrong) {
            power("3", "2", m, IAE);
            power("3", "0", m, IAE);
            power("3", "-1", m, IAE);
        }
        power("3", "2", "1", "0");
        power("3", "2", "2", "1");
    }

    private static void registers() {
        int[] none = {4, -1, 8, 9, Integer.MIN_VALUE, Integer.MAX_VALUE};
        for (int r : none) {
            Witness.refused("power(" + r + ", 0, 0, 0)", x -> x.power(r, 0, 0, 0), IAE);
            Witness.refused("power(0, " + r + ", 0, 0)", x -> x.power(0, r, 0, 0), IAE);
            Witness.refused("power(0, 0, " + r + ", 0)", x -> x.power(0, 0, r, 0), IAE);
            if (r != 4) {
                Witness.refused("power(0, 0, 0, " + r + ")", x -> x.power(0, 0, 0, r), IAE);
            }
        }
        for (int to = 0; to < 8; to++) {
            int r = to;
            Witness.answered("power(0, 0, 0, " + to + ")", x -> x.power(0, 0, 0, r), 0, to);
        }
    }

    private static void toMayBeAnyOfThem() {
        for (int to = 0; to < 3; to++) {
            Bench t = new Bench().with(0, "3").with(1, "-2").with(2, "10");
            t.x.power(0, 1, 2, to);
            String[] want = {"0 3", "0 -2", "0 10"};
            want[to] = "0 9";
            for (int r = 0; r < 3; r++) {
                Bench.due("to is " + to + ": register " + r, t.held(r), want[r]);
            }
        }
        Bench t = new Bench().with(0, "6");
        t.x.power(0, 0, 0, 0);
        Bench.due("all of them are one", t.held(0), "0 0");
    }

    private static void theOrderOfExceptions() {
        power("2", "-1000", "4", IAE);
        power("2", "-1", "-4", IAE);
        power("2", "-1", "0", IAE);
        for (int to = 0; to < 8; to++) {
            int r = to;
            // 0 to the power -1: no number times 0 is 1 modulo 6
            Witness w = new Witness("12");
            w.t.x.whole(4, -1);
            Bench.due("power(3, 4, 0, " + to + ")", Bench.outcome(() -> w.t.x.power(3, 4, 0, r)), AE);
            Bench.due("register 4 stays", w.t.x.kind(4) + " " + w.t.x.hash(4), "0 -2");
            w.dueSame("power(3, 4, 0, " + to + ")", 4, "12", "-7/2");
        }
        Bench t = new Bench().with(3, "0").with(4, "-1").with(0, "6");
        Bench.due("no register comes first", Bench.outcome(() -> t.x.power(3, 4, 0, 8)), IAE);
        Bench.due("no register comes first", Bench.outcome(() -> t.x.power(3, 4, 0, -1)), IAE);
    }
}
