/** Promise 7: combine, and the OPERATIONS. */
public final class CombineTest {
    private static final String MOST = "1329227995784915872903807060280344575";
    private static final String HALF = "664613997892457936451903530140172288";

    public static void main(String[] args) {
        sums();
        products();
        quotients();
        floorsAndRests();
        realsAmongOthers();
        powers();
        bits();
        shifts();
        wrongCalls();
        byZero();
        sameRegisters();
        Bench.end("CombineTest");
    }

    private static void op(int op, String a, String b, String want) {
        Bench.dueCombined(op, a, b, want);
    }

    private static void sums() {
        op(0, "2", "3", "0 5");
        op(0, "-2", "2", "0 0");
        op(0, "1/2", "1/3", "1 5/6");
        op(0, "1/2", "1/2", "1 1");
        op(0, "1", "1/2", "1 3/2");
        op(0, "0.1", "0.2", "2 0.30000000000000004");
        op(0, "1/2", "0.25", "2 0.75");
        op(0, MOST, "1", Bench.ISE);
        op(0, MOST, "-1", "0 1329227995784915872903807060280344574");
        op(0, "-" + MOST, "-1", Bench.ISE);
        op(0, MOST, "1/2", Bench.ISE);
        op(0, "9007199254740992.", "1", "2 9007199254740992.0");
        op(0, "9007199254740992.", "3", "2 9007199254740996.0");
        op(1, "2", "5", "0 -3");
        op(1, "1/2", "1/2", "1 0");
        op(1, "0.5", "0.5", "2 0.0");
        op(1, "0", "0.0", "2 0.0");
        op(1, "7.888609052210118e-31", "7.8886090522101195e-31", Bench.ISE);
    }

    private static void products() {
        op(2, "-6", "7", "0 -42");
        op(2, "2/3", "3/2", "1 1");
        op(2, "2/3", "-3", "1 -2");
        op(2, "0", "-3/4", "1 0");
        op(2, "0.1", "3", "2 0.30000000000000004");
        op(2, HALF, "2", Bench.ISE);
        op(2, "1/" + HALF, "1/2", Bench.ISE);
        op(2, "1/" + HALF, HALF, "1 1");
        op(2, "1e20", "1e20", Bench.ISE);
        op(2, "1e-20", "1e-20", Bench.ISE);
    }

    private static void quotients() {
        op(3, "7", "2", "2 3.5");
        op(3, "1", "3", "2 0.3333333333333333");
        op(3, "6", "3", "2 2.0");
        op(3, "0", "-3", "2 0.0");
        op(3, "1/2", "3", "1 1/6");
        op(3, "3", "1/2", "1 6");
        op(3, "-1/2", "1/3", "1 -3/2");
        op(3, "1.0", "3", "2 0.3333333333333333");
        op(3, MOST, MOST, "2 1.0");
        op(3, MOST, "1", Bench.ISE);
        op(3, "1", MOST, Bench.ISE);
        op(3, "9007199254740993", "1", "2 9007199254740992.0");
        op(3, "18014398509481987", "2", "2 9007199254740994.0");
    }

    private static void floorsAndRests() {
        op(4, "7", "2", "0 3");
        op(4, "-7", "2", "0 -4");
        op(4, "7", "-2", "0 -4");
        op(4, "-7", "-2", "0 3");
        op(4, "-8", "2", "0 -4");
        op(4, "7/2", "1/3", "0 10");
        op(4, "-7/2", "5", "0 -1");
        op(4, HALF, "1/2", Bench.ISE);
        op(4, "7.5", "2", "2 3.0");
        op(4, "-7.5", "2", "2 -4.0");
        op(4, "-1e-30", "1e29", "2 -1.0");
        op(4, "1e20", "1e-20", Bench.ISE);
        op(5, "7", "2", "0 1");
        op(5, "-7", "2", "0 1");
        op(5, "7", "-2", "0 -1");
        op(5, "-7", "-2", "0 -1");
        op(5, "-8", "2", "0 0");
        op(5, "7/2", "1/3", "1 1/6");
        op(5, "-7/2", "5", "1 3/2");
        op(5, "4", "1/2", "1 0");
        op(5, "7.5", "2", "2 1.5");
        op(5, "-7.5", "2", "2 0.5");
        op(5, "7.5", "-2", "2 -0.5");
        op(5, "1e22", "0.1", "2 0.08768742176060307");
        // the floor is BEYOND, or rounded when it is a REAL; the rest needs it as it is
        op(5, "1e20", "0.5e-20", "2 2.847283540767018e-21");
        op(5, "-1e-30", "1e29", "2 1e+29");
        op(5, HALF, "1/2", "1 0");
    }

    private static void realsAmongOthers() {
        op(0, MOST, "0.0", Bench.ISE);
        op(2, "0.0", "1/" + MOST, Bench.ISE);
        op(0, "1/3", "0.0", "2 0.3333333333333333");
        op(0, "9007199254740993", "0.0", "2 9007199254740992.0");
        // 9007199254740993 becomes its NEAREST first
        op(1, "9007199254740993", "9007199254740992.", "2 0.0");
        op(5, "9007199254740993", "2.0", "2 0.0");
    }

    private static void powers() {
        op(6, "-17", "5", "0 -1419857");
        op(6, "0", "0", "0 1");
        op(6, "2/3", "0", "1 1");
        op(6, "0.0", "0", "2 1.0");
        op(6, "2", "40", "0 1099511627776");
        op(6, "-2/3", "3", "1 -8/27");
        op(6, "1.1", "3", "2 1.3310000000000004");
        op(6, "8", "39", "0 166153499473114484112975882535043072");
        op(6, "8", "40", Bench.ISE);
        op(6, "1/8", "40", Bench.ISE);
        op(6, "1000.0", "10", "2 1e+30");
        op(6, "1000.0", "11", Bench.ISE);
        op(6, "0.001", "11", Bench.ISE);
        op(6, MOST, "1", "0 " + MOST);
        op(6, "-1", "40", "0 1");
        op(6, "2", "41", Bench.IAE);
        op(6, "2", "1073741829", Bench.IAE);
        op(6, "2", "1152921504606846981", Bench.IAE);
        op(6, "2", "-1", Bench.IAE);
        op(6, "2", "2.0", Bench.IAE);
        op(6, "2", "2/1", Bench.IAE);
    }

    private static void bits() {
        op(7, "12", "10", "0 8");
        op(8, "12", "10", "0 14");
        op(9, "12", "10", "0 6");
        op(7, "-17", "511", "0 495");
        op(8, "-17", "5", "0 -17");
        op(9, "-17", "5", "0 -22");
        op(7, "-4", "-6", "0 -8");
        op(8, "-4", "-6", "0 -2");
        op(9, "-4", "-6", "0 6");
        op(9, "-1", "0", "0 -1");
        op(7, "-1", MOST, "0 " + MOST);
        op(9, "-1", MOST, Bench.ISE);
        op(7, "-" + MOST, "-2", Bench.ISE);
        op(8, "-" + MOST, "-2", "0 -1");
        op(9, MOST, "0x555555555555555555555555555555", "0 886151997189943915269204706853563050");
        op(7, "1.0", "1", Bench.IAE);
        op(8, "1", "1/1", Bench.IAE);
        op(9, "1.0", "1.0", Bench.IAE);
    }

    private static void shifts() {
        op(10, "3", "2", "0 12");
        op(10, "-3", "2", "0 -12");
        op(10, "13", "-2", "0 3");
        op(10, "-13", "-2", "0 -4");
        op(10, "-12", "-2", "0 -3");
        op(10, "-1", "-120", "0 -1");
        op(10, MOST, "-120", "0 0");
        op(10, "-" + MOST, "-120", "0 -1");
        op(10, MOST, "-119", "0 1");
        op(10, "1", "119", "0 " + HALF);
        op(10, "1", "120", Bench.ISE);
        op(10, "0", "120", "0 0");
        op(10, "0", "-5", "0 0");
        op(10, "5", "0", "0 5");
        op(10, "-5", "0", "0 -5");
        op(10, "1", "121", Bench.IAE);
        op(10, "1", "-1073741829", Bench.IAE);
        op(10, "1", "-121", Bench.IAE);
        op(10, "1", "1.0", Bench.IAE);
        op(10, "1.0", "1", Bench.IAE);
        op(10, "1", MOST, Bench.IAE);
    }

    private static void wrongCalls() {
        Bench t = new Bench().with(0, "1").with(1, "2");
        int[][] wrong = {
            {-1, 0, 1, 2}, {11, 0, 1, 2}, {0, 8, 1, 2}, {0, -1, 1, 2}, {0, 0, 8, 2}, {0, 0, -1, 2},
            {0, 0, 1, 8}, {0, 0, 1, -1}, {0, 3, 1, 2}, {0, 0, 3, 2}, {3, 0, 9, 1}, {Integer.MIN_VALUE, 0, 1, 2},
            {6, 0, 3, 2}, {7, 3, 0, 2}
        };
        for (int[] w : wrong) {
            Bench.due("combine" + java.util.Arrays.toString(w),
                    Bench.outcome(() -> t.x.combine(w[0], w[1], w[2], w[3])), Bench.IAE);
        }
        Bench.due("unchanged", t.held(0) + t.held(1) + t.held(2), "0 10 2none");
    }

    private static void byZero() {
        for (int op = 3; op <= 5; op++) {
            op(op, "1", "0", Bench.AE);
            op(op, "0", "0", Bench.AE);
            op(op, "1/2", "0/1", Bench.AE);
            op(op, "1.5", "0.0", Bench.AE);
            op(op, MOST, "0.0", Bench.AE);
            op(op, "1.0", "0", Bench.AE);
        }
        Bench t = new Bench().with(0, "1").with(1, "0");
        Bench.due("no register comes first", Bench.outcome(() -> t.x.combine(3, 0, 1, 8)), Bench.IAE);
    }

    private static void sameRegisters() {
        Bench t = new Bench().with(0, "3/2");
        t.x.combine(2, 0, 0, 0);
        Bench.due("squared in place", t.held(0), "1 9/4");
        t.with(1, "2");
        t.x.combine(1, 1, 0, 0);
        Bench.due("to is b", t.held(0), "1 -1/4");
        t.x.combine(5, 1, 0, 1);
        Bench.due("to is a", t.held(1), "1 0");
        Bench.due("b stays", t.held(0), "1 -1/4");
    }
}
