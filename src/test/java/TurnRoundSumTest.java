/** Promises 9 (turn), 10 (round), 11 (sum). */
public final class TurnRoundSumTest {
    private static final String MOST = "1329227995784915872903807060280344575";

    public static void main(String[] args) {
        turns();
        wrongTurns();
        roundings();
        wrongRoundings();
        sums();
        wrongSums();
        Bench.end("TurnRoundSumTest");
    }

    private static void turn(int what, String a, String want) {
        Bench t = new Bench().with(1, a);
        String answer = Bench.outcome(() -> t.x.turn(what, 1, 2));
        boolean thrown = answer.startsWith("throws.");
        Bench.due("turn " + what + " of " + a, thrown ? answer : t.held(2), want);
        Bench.due("the kind answered", answer, thrown ? want : t.x.kind(2));
    }

    private static void turns() {
        turn(0, "7/2", "0 3");
        turn(0, "-7/2", "0 -3");
        turn(0, "-1/2", "0 0");
        turn(0, "-2.75", "0 -2");
        turn(0, "1e22", "0 10000000000000000000000");
        turn(0, "1e-30", "0 0");
        turn(0, "-5", "0 -5");
        turn(1, "5", "1 5");
        turn(1, "-6/4", "1 -3/2");
        turn(1, "0.1", "1 3602879701896397/36028797018963968");
        turn(1, "-2.5", "1 -5/2");
        turn(1, "0.0", "1 0");
        turn(1, "1e30", "1 1000000000000000019884624838656");
        turn(1, "1e-30", Bench.ISE);
        turn(2, "1/3", "2 0.3333333333333333");
        turn(2, "9007199254740993", "2 9007199254740992.0");
        turn(2, "9007199254740995", "2 9007199254740996.0");
        turn(2, "0/1", "2 0.0");
        turn(2, "0.1", "2 0.1");
        turn(2, MOST, Bench.ISE);
        turn(2, "1/" + MOST, Bench.ISE);
        turn(3, "5", "0 -5");
        turn(3, "0", "0 0");
        turn(3, "-5/2", "1 5/2");
        turn(3, "0.0", "2 0.0");
        turn(3, "2.5", "2 -2.5");
        turn(3, "-" + MOST, "0 " + MOST);
        turn(4, "-5", "0 5");
        turn(4, "5/2", "1 5/2");
        turn(4, "-2.5", "2 2.5");
        turn(4, "0.0", "2 0.0");
    }

    private static void wrongTurns() {
        Bench t = new Bench().with(0, "1");
        int[][] wrong = {{-1, 0, 1}, {5, 0, 1}, {0, 1, 2}, {0, 8, 1}, {0, -1, 1}, {0, 0, 8}, {0, 0, -1}};
        for (int[] w : wrong) {
            Bench.due("turn" + java.util.Arrays.toString(w),
                    Bench.outcome(() -> t.x.turn(w[0], w[1], w[2])), Bench.IAE);
        }
        t.with(0, MOST).with(1, "4");
        Bench.due("BEYOND", Bench.outcome(() -> t.x.turn(2, 0, 1)), Bench.ISE);
        Bench.due("changes nothing", t.held(1), "0 4");
        Bench.due("no register comes first", Bench.outcome(() -> t.x.turn(2, 0, 9)), Bench.IAE);
        Bench.due("in place", t.x.turn(3, 1, 1) + t.held(1), "00 -4");
    }

    private static void round(String a, int n, String want) {
        Bench t = new Bench().with(1, a);
        String answer = Bench.outcome(() -> t.x.round(1, n, 2));
        boolean thrown = answer.startsWith("throws.");
        Bench.due(a + " rounded to " + n, thrown ? answer : t.held(2), want);
    }

    private static void roundings() {
        round("12345", -2, "0 12300");
        round("12350", -2, "0 12400");
        round("12450", -2, "0 12400");
        round("-12350", -2, "0 -12400");
        round("50", -2, "0 0");
        round("51", -2, "0 100");
        round("12345", 0, "0 12345");
        round("12345", 20, "0 12345");
        round(MOST, 20, "0 " + MOST);
        round(MOST, -1, Bench.ISE);
        round("1329227995784915800000000000000000000", -20, "0 1329227995784915800000000000000000000");
        round(MOST, -20, Bench.ISE);
        round("7/2", 0, "1 4");
        round("5/2", 0, "1 2");
        round("-1/3", 2, "1 -33/100");
        round("1/3", 20, "1 33333333333333333333/100000000000000000000");
        round("1/8", 2, "1 3/25");
        round("3/8", 2, "1 19/50");
        round("1/3", -1, "1 0");
        round("35/1", -1, "1 40");
        round("1329227995784915872903807060280344573/2", 20, "1 1329227995784915872903807060280344573/2");
        round("11111111111111111111/3", 20, Bench.ISE);
        round("-0.5", 0, "2 0.0");
        round("1.5", 0, "2 2.0");
        round("2.5", 0, "2 2.0");
        round("2.675", 2, "2 2.67");
        round("0.125", 2, "2 0.12");
        round("-0.375", 2, "2 -0.38");
        round("1e-30", 20, "2 0.0");
        round("0.00000000000000000001", 20, "2 1e-20");
        round("123456.789", -3, "2 123000.0");
        round("1e30", -20, "2 1e+30");
    }

    private static void wrongRoundings() {
        Bench t = new Bench().with(0, "15");
        int[][] wrong = {{0, 21, 1}, {0, -21, 1}, {1, 0, 1}, {8, 0, 1}, {-1, 0, 1}, {0, 0, 8}, {0, 0, -1},
            {0, Integer.MIN_VALUE, 1}};
        for (int[] w : wrong) {
            Bench.due("round" + java.util.Arrays.toString(w),
                    Bench.outcome(() -> t.x.round(w[0], w[1], w[2])), Bench.IAE);
        }
        Bench.due("in place", t.x.round(0, -1, 0) + t.held(0), "00 20");
    }

    private static void sum(String want, int set, String... numbers) {
        Bench t = new Bench();
        for (int i = 0; i < numbers.length; i++) {
            if (!numbers[i].isEmpty()) {
                t.with(i, numbers[i]);
            }
        }
        String answer = Bench.outcome(() -> t.x.sum(set, 7));
        Bench.due("sum " + set, answer.equals("2") ? t.shown(7) : answer, want);
    }

    private static void sums() {
        sum("0.0", 0, "1");
        sum("0.0", 255);
        sum("5.0", 3, "2", "3");
        sum("2.0", 1, "2", "3");
        sum("3.0", 2, "2", "3");
        sum("5.0", 255, "2", "", "3");
        sum("0.6", 7, "0.1", "0.2", "0.3");
        sum("1.0", 7, "1e30", "1", "-1e30");
        sum("1e-30", 7, "1e30", "1e-30", "-1e30");
        sum("-1.5", 3, "-2", "0.5");
        sum("0.0", 3, "-2.5", "2.5");
        // the wholes do not become their NEAREST first
        sum("2.0", 7, "9007199254740993", "-9007199254740992.", "1");
        sum("1.0", 7, MOST, "-" + MOST, "1");
        sum(Bench.ISE, 3, MOST, "1");
        // what comes on the way may be BEYOND
        sum("-1.25e+28", 7, "1.25e30", "-12500000000000000000000000000.", "-1.25e30");
        sum("1.25e+30", 7, "1.25e30", "1.25e30", "-1.25e30");
        sum("7.888609052210118e-31", 3, "1.5777218104420236e-30", "-7.888609052210118e-31");
        sum(Bench.ISE, 3, "7.888609052210118e-31", "-7.8886090522101195e-31");
        // registers with ratios that are not in the set
        sum("2.0", 1, "2", "1/2");
    }

    private static void wrongSums() {
        sum(Bench.IAE, 256, "1");
        sum(Bench.IAE, -1, "1");
        sum(Bench.IAE, 3, "1", "1/2");
        sum(Bench.IAE, 3, MOST, "2/1");
        sum(Bench.IAE, 3, "1/2", "1");
        sum(Bench.IAE, 192, "1", "", "", "", "", "", "1", "1/2");
        Bench t = new Bench().with(0, "1");
        Bench.due("no register to", Bench.outcome(() -> t.x.sum(1, 8)), Bench.IAE);
        Bench.due("no register to", Bench.outcome(() -> t.x.sum(1, -1)), Bench.IAE);
        Bench.due("in place", t.x.sum(1, 0) + t.held(0), "22 1.0");
        Bench.due("a second sum", t.x.sum(1, 0) + t.held(0), "22 1.0");
        t.x.whole(1, -3);
        Bench.due("one below 0", t.x.sum(2, 2) + t.held(2), "22 -3.0");
        Bench.due("a sum behind it", t.x.sum(1, 2) + t.held(2), "22 1.0");
    }
}
