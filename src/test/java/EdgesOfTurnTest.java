/** Promise 9 (turn) and TURNS 0 to 4: each sentence at its bounds. */
public final class EdgesOfTurnTest {
    private static final String MOST = Bench.MOST;
    private static final String IAE = Bench.IAE;
    private static final String ISE = Bench.ISE;

    public static void main(String[] args) {
        theWholeNextTowardsZero();
        theRatioThatIsWorthTheSame();
        itsNearest();
        lessThanZeroByX();
        itsAmount();
        theKindThatComes();
        noSuchTurn();
        noSuchRegister();
        toMayBeA();
        theOrderOfExceptions();
        Bench.end("EdgesOfTurnTest");
    }

    private static void turn(int what, String a, String want) {
        Bench.dueTurned(what, a, want);
    }

    private static void theWholeNextTowardsZero() {
        String[][] some = {{"0", "0"}, {"0/1", "0"}, {"0.0", "0"}, {"5", "5"}, {"-5", "-5"}, {"5/1", "5"}, {"-5/1", "-5"},
            {"5.0", "5"}, {"-5.0", "-5"}, {"1/2", "0"}, {"-1/2", "0"}, {"0.5", "0"}, {"-0.5", "0"}, {"3/2", "1"},
            {"-3/2", "-1"}, {"1.5", "1"}, {"-1.5", "-1"}, {"99999/100000", "0"}, {"-199999/100000", "-1"},
            {"0x1.fffffffffffffp-1", "0"}, {"-0x1.fffffffffffffp0", "-1"}, {"0x1p-100", "0"}, {"-0x1p-100", "0"},
            {"0x1p53", "9007199254740992"}, {"-4503599627370495.5", "-4503599627370495"},
            {"0x1.fffffffffffffp99", "1267650600228229260759214850048"},
            {"-0x1.fffffffffffffp99", "-1267650600228229260759214850048"},
            {MOST, MOST}, {"-" + MOST, "-" + MOST}, {MOST + "/1", MOST}, {"-" + MOST + "/2",
            "-664613997892457936451903530140172287"}, {"1/" + MOST, "0"}};
        for (String[] s : some) {
            turn(0, s[0], "0 " + s[1]);
        }
    }

    private static void theRatioThatIsWorthTheSame() {
        turn(1, "0", "1 0");
        turn(1, "-7", "1 -7");
        turn(1, "6/4", "1 3/2");
        turn(1, "0.0", "1 0");
        turn(1, "2.0", "1 2");
        turn(1, "-2.5", "1 -5/2");
        turn(1, "0.1", "1 3602879701896397/36028797018963968");
        turn(1, MOST, "1 " + MOST);
        turn(1, "0x1.fffffffffffffp99", "1 1267650600228229260759214850048");
        turn(1, "0x1p-100", "1 1/1267650600228229401496703205376");
        // lower parts of 2^119 and of 2^120
        turn(1, "0x1.00002p-100", "1 524289/664613997892457936451903530140172288");
        turn(1, "-0x1.00001p-100", ISE);
        turn(1, "0x1.0000000000001p-67", "1 4503599627370497/664613997892457936451903530140172288");
        turn(1, "0x1.0000000000001p-68", ISE);
        turn(1, "1e-30", ISE);
    }

    private static void itsNearest() {
        turn(2, "0", "2 0x0p0");
        turn(2, "-7", "2 -7.0");
        turn(2, "1/3", "2 0x1.5555555555555p-2");
        turn(2, "2/3", "2 0x1.5555555555555p-1");
        turn(2, "-0.1", "2 -0.1");
        turn(2, "9007199254740993", "2 0x1p53");
        turn(2, "9007199254740993/1", "2 0x1p53");
        turn(2, "0x1p-100", "2 0x1p-100");
        turn(2, "-0x1.fffffffffffffp99", "2 -0x1.fffffffffffffp99");
        turn(2, "1267650600228229401496703205376", ISE);
        turn(2, "1267650600228229401496703205376/1", ISE);
        turn(2, "1/1267650600228229401496703205376", "2 0x1p-100");
        turn(2, "1/1267650600228229500000000000000", ISE);
        turn(2, MOST, ISE);
        turn(2, "1/" + MOST, ISE);
        Bench t = new Bench().with(0, MOST + "/1").with(1, "1329227995784915872903807060280344574/1");
        t.x.combine(3, 0, 1, 2);
        t.duePut("turn 2 of the greatest parts", () -> t.x.turn(2, 2, 3), "2 1.0");
    }

    private static void lessThanZeroByX() {
        String[][] some = {{"0", "0 0"}, {"7", "0 -7"}, {"-7", "0 7"}, {"0/1", "1 0"}, {"7/2", "1 -7/2"},
            {"-7/2", "1 7/2"}, {"4/2", "1 -2"}, {"0.0", "2 0x0p0"}, {"2.5", "2 -2.5"}, {"-2.5", "2 2.5"},
            {MOST, "0 -" + MOST}, {"-" + MOST, "0 " + MOST}, {"1/" + MOST, "1 -1/" + MOST},
            {"0x1p-100", "2 -0x1p-100"}, {"-0x1.fffffffffffffp99", "2 0x1.fffffffffffffp99"}};
        for (String[] s : some) {
            turn(3, s[0], s[1]);
        }
    }

    private static void itsAmount() {
        String[][] some = {{"0", "0 0"}, {"7", "0 7"}, {"-7", "0 7"}, {"0/1", "1 0"}, {"7/2", "1 7/2"},
            {"-7/2", "1 7/2"}, {"-4/2", "1 2"}, {"0.0", "2 0x0p0"}, {"2.5", "2 2.5"}, {"-2.5", "2 2.5"},
            {MOST, "0 " + MOST}, {"-" + MOST, "0 " + MOST}, {"-1/" + MOST, "1 1/" + MOST},
            {"-0x1p-100", "2 0x1p-100"}, {"-0x1.fffffffffffffp99", "2 0x1.fffffffffffffp99"}};
        for (String[] s : some) {
            turn(4, s[0], s[1]);
        }
    }

    private static void theKindThatComes() {
        String[] numbers = {"-6", "-7/2", "-2.5"};
        int[][] want = {{0, 0, 0}, {1, 1, 1}, {2, 2, 2}, {0, 1, 2}, {0, 1, 2}};
        for (int what = 0; what <= 4; what++) {
            for (int kind = 0; kind < 3; kind++) {
                Bench t = new Bench().with(0, numbers[kind]);
                int w = what;
                Bench.due("turn " + what, Bench.outcome(() -> t.x.turn(w, 0, 1)), want[what][kind]);
                Bench.due("the kind there", t.x.kind(1), want[what][kind]);
                Bench.due("a stays", t.held(0), kind + " " + numbers[kind]);
            }
        }
    }

    private static void noSuchTurn() {
        int[] wrong = {-1, 5, 6, 255, Integer.MIN_VALUE, Integer.MAX_VALUE};
        for (int what : wrong) {
            for (int r = 0; r < 8; r++) {
                int a = r;
                Witness.refused("turn(" + what + ", " + r + ", 0)", x -> x.turn(what, a, 0), IAE);
            }
        }
    }

    private static void noSuchRegister() {
        int[] none = {-1, 8, 9, Integer.MIN_VALUE, Integer.MAX_VALUE};
        for (int what = 0; what <= 4; what++) {
            int w = what;
            for (int r : none) {
                Witness.refused("turn(" + what + ", " + r + ", 0)", x -> x.turn(w, r, 0), IAE);
                Witness.refused("turn(" + what + ", 0, " + r + ")", x -> x.turn(w, 0, r), IAE);
            }
            Witness.refused("turn(" + what + ", 4, 0)", x -> x.turn(w, 4, 0), IAE);
            Witness.refused("turn(" + what + ", 4, 4)", x -> x.turn(w, 4, 4), IAE);
        }
    }

    private static void toMayBeA() {
        String[] want = {"0 -3", "1 -7/2", "2 -3.5", "1 7/2", "1 7/2"};
        for (int what = 0; what <= 4; what++) {
            Bench t = new Bench().with(0, "-7/2");
            t.x.turn(what, 0, 0);
            Bench.due("turn " + what + " in place", t.held(0), want[what]);
            int w = what;
            for (int to = 0; to < 8; to++) {
                int r = to;
                int kind = want[what].charAt(0) - '0';
                Witness.answered("turn(" + what + ", 1, " + to + ")", x -> x.turn(w, 1, r), kind, to);
            }
        }
    }

    private static void theOrderOfExceptions() {
        for (int to = 0; to < 8; to++) {
            int r = to;
            Witness.refused("turn(2, 5, " + to + ")", x -> x.turn(2, 5, r), ISE);
            Witness.refused("turn(2, 7, " + to + ")", x -> x.turn(2, 7, r), ISE);
        }
        Witness.refused("turn(2, 5, 8)", x -> x.turn(2, 5, 8), IAE);
        Witness.refused("turn(2, 5, -1)", x -> x.turn(2, 5, -1), IAE);
        Bench t = new Bench().with(0, "1e-30");
        Bench.due("turn 1 in place, BEYOND", Bench.outcome(() -> t.x.turn(1, 0, 0)), ISE);
        Bench.due("it stays", t.held(0), "2 1e-30");
        Bench.due("no register comes first", Bench.outcome(() -> t.x.turn(1, 0, 8)), IAE);
    }
}
