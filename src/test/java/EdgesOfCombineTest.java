/** Promise 7 (combine) and OPERATIONS 0 to 10: each sentence at its bounds. */
public final class EdgesOfCombineTest {
    private static final String MOST = Bench.MOST;
    private static final String PAST_REALS = "1267650600228229401496703205376";
    private static final String IAE = Bench.IAE;
    private static final String AE = Bench.AE;
    private static final String ISE = Bench.ISE;
    private static final String[] KINDS = {"6", "7/2", "2.5"};

    public static void main(String[] args) {
        theKindOfWhatComes();
        aRealMakesTheOtherOneNearestFirst();
        beyondIfTheOtherOneHasNoNearest();
        byZeroIsLookedAtBefore();
        quotientOfTwoWholes();
        theFloorIsNotAbove();
        theFloorOfRealsIsNearest();
        theRestOfEachSign();
        theRestTakesTheIntegerItself();
        powersFromZeroTo40();
        powersTakeAWholeAlone();
        powersAreRoundedAtEachStep();
        bitsOfNumbersBelowZero();
        bitsOfWholesAlone();
        shiftsFromMinus120To120();
        noSuchOperation();
        noSuchRegister();
        noNumber();
        toMayBeAOrB();
        theOrderOfExceptions();
        Bench.end("EdgesOfCombineTest");
    }

    private static void op(int op, String a, String b, String want) {
        Bench.dueCombined(op, a, b, want);
    }

    private static void theKindOfWhatComes() {
        int[][] want = {{0, 1, 2}, {1, 1, 2}, {2, 2, 2}};
        for (int op = 0; op <= 5; op++) {
            for (int a = 0; a < 3; a++) {
                for (int b = 0; b < 3; b++) {
                    NumberTower x = new Bench().with(0, KINDS[a]).with(1, KINDS[b]).x;
                    int kind = want[a][b];
                    kind = op == 3 && a == 0 && b == 0 ? 2 : op == 4 && kind == 1 ? 0 : kind;
                    int o = op;
                    Bench.due("the kind of " + KINDS[a] + " op " + op + " " + KINDS[b],
                            Bench.outcome(() -> x.combine(o, 0, 1, 2)), kind);
                    Bench.due("the kind there", x.kind(2), kind);
                }
            }
        }
        op(0, "1/2", "1/2", "1 1");
        op(1, "1/2", "1/2", "1 0");
        op(2, "1/2", "2", "1 1");
        op(3, "3", "3/1", "1 1");
        op(5, "4", "2/1", "1 0");
        op(3, "6", "3", "2 2.0");
        op(4, "6/1", "3/1", "0 2");
        op(4, "6.0", "3", "2 2.0");
    }

    private static void aRealMakesTheOtherOneNearestFirst() {
        op(0, "9007199254740993", "1.0", "2 0x1p53");
        op(0, "1.0", "9007199254740993", "2 0x1p53");
        op(1, "9007199254740993", "9007199254740992.", "2 0x0p0");
        op(1, "9007199254740992.", "9007199254740993", "2 0x0p0");
        op(1, "1/10", "0.1", "2 0x0p0");
        op(1, "0.1", "1/10", "2 0x0p0");
        op(2, "9007199254740993", "0x1.8p0", "2 0x1.8p53");
        op(3, "9007199254740993", "3.0", "2 3002399751580330.5");
        op(3, "3.0", "3/9007199254740993", "2 9007199254740994.0");
        // 1/10 as a REAL is a bit above a tenth
        op(4, "1.0", "1/10", "2 9.0");
        op(4, "1/1", "1/10", "0 10");
        op(5, "1.0", "1/3", "2 0x1p-54");
        op(5, "9007199254740993", "2.0", "2 0x0p0");
        op(4, "-9007199254740993", "9007199254740992.", "2 -1.0");
    }

    private static void beyondIfTheOtherOneHasNoNearest() {
        String[] none = {PAST_REALS, "-" + PAST_REALS, MOST, "1/" + MOST, PAST_REALS + "/1",
            "-1/2535301200456458802993406410752"};
        for (String other : none) {
            for (int op = 0; op <= 5; op++) {
                op(op, "1.0", other, ISE);
                op(op, other, "1.0", ISE);
                op(op, "0.0", other, ISE);
            }
            op(6, other, "0", other.indexOf('/') < 0 ? "0 1" : "1 1");
        }
        op(0, "0.0", "1/" + PAST_REALS, "2 0x1p-100");
    }

    private static void byZeroIsLookedAtBefore() {
        String[] xs = {"0", "5", "-7/2", "2.5", "0.0", MOST, "1/" + MOST, "-" + MOST + "/1"};
        String[] zeros = {"0", "0/1", "0.0"};
        for (int op = 3; op <= 5; op++) {
            for (String x : xs) {
                for (String zero : zeros) {
                    op(op, x, zero, AE);
                }
            }
        }
        op(2, MOST, "0.0", ISE);
        op(2, MOST, "0", "0 0");
        op(0, "5", "0", "0 5");
        op(1, "5", "0/1", "1 5");
    }

    private static void quotientOfTwoWholes() {
        op(3, "1", "3", "2 0x1.5555555555555p-2");
        op(3, "-7", "2", "2 -3.5");
        op(3, "0", "-7", "2 0x0p0");
        op(3, "6", "-2", "2 -3.0");
        // of the WHOLES themselves, not of their NEAREST
        op(3, "9007199254740993", "3", "2 3002399751580331.0");
        op(3, MOST, MOST, "2 1.0");
        op(3, MOST, "1048577", "2 0x1.ffffe00002p99");
        op(3, MOST, "1048576", ISE);
        op(3, PAST_REALS, "1", ISE);
        op(3, "1", MOST, ISE);
        op(3, "1", PAST_REALS, "2 0x1p-100");
        op(3, "1/2", "1/3", "1 3/2");
    }

    private static void theFloorIsNotAbove() {
        String[][] some = {
            {"7", "2", "3"}, {"-7", "2", "-4"}, {"7", "-2", "-4"}, {"-7", "-2", "3"}, {"8", "2", "4"}, {"-8", "2", "-4"},
            {"8", "-2", "-4"}, {"-8", "-2", "4"}, {"1", "2", "0"}, {"-1", "2", "-1"}, {"1", "-2", "-1"}, {"-1", "-2", "0"},
            {"0", "2", "0"}, {"0", "-2", "0"}, {"1", MOST, "0"}, {"-1", MOST, "-1"}, {MOST, "-1", "-" + MOST},
            {"-" + MOST, MOST, "-1"}, {MOST, MOST, "1"}
        };
        for (String[] s : some) {
            op(4, s[0], s[1], "0 " + s[2]);
            op(4, s[0] + "/1", s[1], "0 " + s[2]);
            op(4, s[0], s[1] + "/1", "0 " + s[2]);
        }
        op(4, "7/2", "1/3", "0 10");
        op(4, "-7/2", "1/3", "0 -11");
        op(4, "-7/2", "-7/2", "0 1");
        op(4, "1/3", "2/3", "0 0");
        op(4, "-1/3", "2/3", "0 -1");
        op(4, "-7.0", "2.0", "2 -4.0");
        op(4, "7.0", "-2.0", "2 -4.0");
        op(4, "-7.0", "-2.0", "2 3.0");
        op(4, "0x1p-100", "-0x1p99", "2 -1.0");
        op(4, "0x1p-100", "0x1p99", "2 0x0p0");
    }

    private static void theFloorOfRealsIsNearest() {
        op(4, "1.0", "0.1", "2 9.0");
        op(4, "0x1p99", "3.0", "2 0x1.5555555555555p97");
        op(4, "1e20", "3.0", "2 3.333333333333333e+19");
        // 2^53 + 1 is the floor, 2^53 the NEAREST of it, and 2^53 + 2 that of the quotient
        op(4, "13510798882111490.", "1.5", "2 0x1p53");
        op(4, "-13510798882111490.", "1.5", "2 -9007199254740994.0");
        op(4, "-0x1p99", "0x1.8p1", "2 -0x1.5555555555555p97");
        op(4, "0x1p60", "0x1p-40", ISE);
        op(4, "0x1p59", "0x1p-40", "2 0x1p99");
    }

    private static void theRestOfEachSign() {
        String[][] some = {
            {"7", "2", "1"}, {"-7", "2", "1"}, {"7", "-2", "-1"}, {"-7", "-2", "-1"}, {"8", "2", "0"}, {"-8", "2", "0"},
            {"8", "-2", "0"}, {"-8", "-2", "0"}, {"1", "3", "1"}, {"-1", "3", "2"}, {"1", "-3", "-2"}, {"-1", "-3", "-1"},
            {"0", "3", "0"}, {"0", "-3", "0"}, {"-1", MOST, "1329227995784915872903807060280344574"},
            {"1", "-" + MOST, "-1329227995784915872903807060280344574"}, {MOST, MOST, "0"}
        };
        for (String[] s : some) {
            op(5, s[0], s[1], "0 " + s[2]);
            op(5, s[0] + "/1", s[1], "1 " + s[2]);
            op(5, s[0], s[1] + "/1", "1 " + s[2]);
        }
        op(5, "-7.5", "2", "2 0.5");
        op(5, "7.5", "-2", "2 -0.5");
        op(5, "-7.5", "-2", "2 -1.5");
        op(5, "-7/2", "1/3", "1 1/6");
        op(5, "7/2", "-1/3", "1 -1/6");
    }

    private static void theRestTakesTheIntegerItself() {
        // the floor is BEYOND, the rest is none
        op(5, "664613997892457936451903530140172288", "1/2", "1 0");
        op(5, "664613997892457936451903530140172287", "2/3", "1 1/3");
        op(5, "0x1p99", "0x1p-100", "2 0x0p0");
        op(5, "0x1p99", "0x1.8p-99", "2 0x1p-99");
        op(5, "0x1p99", "-0x1.8p-99", "2 -0x1p-100");
        // the floor has more than 53 bits
        op(5, "1e22", "0.1", "2 0.08768742176060307");
        op(5, "1e20", "3.0", "2 1.0");
        op(5, "13510798882111490.", "1.5", "2 0.5");
        op(5, "-13510798882111490.", "1.5", "2 1.0");
        op(5, "0x1p99", "7.0", "2 1.0");
        op(5, "-0x1p99", "7.0", "2 6.0");
        op(5, "1.0", "0.1", "2 0x1.9999999999996p-4");
        // what comes is rounded once
        op(5, "-0x1p-100", "0x1p99", "2 0x1p99");
        op(5, "-0x1p-54", "1.0", "2 1.0");
        op(5, "-0x1.8p-54", "1.0", "2 0x1.fffffffffffffp-1");
    }

    private static void powersFromZeroTo40() {
        String[] ys = {"0", "1", "2", "39", "40"};
        String[] twos = {"1", "2", "4", "549755813888", "1099511627776"};
        String[] reals = {"1.0", "2.0", "4.0", "549755813888.0", "1099511627776.0"};
        for (int i = 0; i < ys.length; i++) {
            op(6, "2", ys[i], "0 " + twos[i]);
            op(6, "1/2", ys[i], i == 0 ? "1 1" : "1 1/" + twos[i]);
            op(6, "2.0", ys[i], "2 " + reals[i]);
        }
        String[] wrong = {"41", "42", "-1", "-40", "100", "1073741824", "1073741864", "1152921504606846976",
            "-1152921504606846976", "18446744073709551616", MOST, "-" + MOST};
        for (String y : wrong) {
            for (String x : KINDS) {
                op(6, x, y, IAE);
            }
            op(6, "1", y, IAE);
            op(6, "0", y, IAE);
        }
        op(6, "0", "0", "0 1");
        op(6, "0/5", "0", "1 1");
        op(6, "0.0", "0", "2 1.0");
        op(6, "0", "1", "0 0");
        op(6, "-2", "3", "0 -8");
        op(6, "-2/3", "2", "1 4/9");
        op(6, MOST, "0", "0 1");
        op(6, "-" + MOST, "1", "0 -" + MOST);
        op(6, "1/" + MOST, "1", "1 1/" + MOST);
        op(6, MOST, "2", ISE);
        op(6, "8", "39", "0 166153499473114484112975882535043072");
        op(6, "8", "40", ISE);
        op(6, "0x1.fffffffffffffp99", "1", "2 0x1.fffffffffffffp99");
    }

    private static void powersTakeAWholeAlone() {
        for (String x : KINDS) {
            op(6, x, "2.0", IAE);
            op(6, x, "2/1", IAE);
            op(6, x, "0.0", IAE);
            op(6, x, "0/1", IAE);
        }
        op(6, "2.5", "2", "2 6.25");
        op(6, "5/2", "2", "1 25/4");
    }

    private static void powersAreRoundedAtEachStep() {
        op(6, "1.1", "4", "2 1.4641000000000006");
        op(6, "0.1", "3", "2 0.0010000000000000002");
        op(6, "0x1.0000000000001p0", "2", "2 0x1.0000000000002p0");
        op(6, "0x1p-50", "2", "2 0x1p-100");
        op(6, "0x1p-50", "3", ISE);
        op(6, "0x1p33", "3", "2 0x1p99");
        op(6, "0x1p33", "4", ISE);
        op(6, "-0x1p33", "3", "2 -0x1p99");
        op(6, "0.001", "10", powerByDoubles(0.001, 10));
        op(6, "1000.0", "10", "2 1e+30");
    }

    /** Java's own doubles do the same where nothing is BEYOND. */
    private static String powerByDoubles(double x, int y) {
        double p = 1.0;
        for (int i = 0; i < y; i++) {
            p *= x;
        }
        return "2 " + Double.toHexString(p);
    }

    private static void bitsOfNumbersBelowZero() {
        String[] some = {"0", "1", "-1", "5", "-5", "-6", "12", "-8", "1073741823", "1073741824", "-1073741824",
            "-1073741825", "1152921504606846975", "-1152921504606846976", "-1152921504606846977",
            "9223372036854775807"};
        for (String a : some) {
            for (String b : some) {
                long x = Long.parseLong(a);
                long y = Long.parseLong(b);
                op(7, a, b, "0 " + (x & y));
                op(8, a, b, "0 " + (x | y));
                op(9, a, b, "0 " + (x ^ y));
            }
        }
        op(7, "-1", MOST, "0 " + MOST);
        op(8, "-1", MOST, "0 -1");
        op(7, "-" + MOST, MOST, "0 1");
        op(8, "-" + MOST, MOST, "0 -1");
        op(9, "-" + MOST, MOST, "0 -2");
        op(8, "-" + MOST, "1", "0 -" + MOST);
        op(7, "-" + MOST, "-2", ISE);
        op(9, "-" + MOST, "1", ISE);
        op(9, "-" + MOST, "-" + MOST, "0 0");
    }

    private static void bitsOfWholesAlone() {
        String[] others = {"7/2", "2/1", "2.5", "2.0", "0.0", "0/1"};
        for (int op = 7; op <= 10; op++) {
            for (String other : others) {
                op(op, "6", other, IAE);
                op(op, other, "6", IAE);
                op(op, other, other, IAE);
            }
        }
    }

    private static void shiftsFromMinus120To120() {
        op(10, "1", "119", "0 664613997892457936451903530140172288");
        op(10, "1", "120", ISE);
        op(10, "0", "120", "0 0");
        op(10, "0", "-120", "0 0");
        op(10, "0", "0", "0 0");
        op(10, MOST, "0", "0 " + MOST);
        op(10, "-" + MOST, "0", "0 -" + MOST);
        op(10, MOST, "1", ISE);
        op(10, MOST, "-119", "0 1");
        op(10, MOST, "-120", "0 0");
        op(10, "-" + MOST, "-119", "0 -2");
        op(10, "-" + MOST, "-120", "0 -1");
        op(10, "-1", "-1", "0 -1");
        op(10, "-2", "-1", "0 -1");
        op(10, "-3", "-1", "0 -2");
        op(10, "3", "-1", "0 1");
        op(10, "1", "-1", "0 0");
        op(10, "-1073741824", "-30", "0 -1");
        op(10, "-1073741825", "-30", "0 -2");
        op(10, "-664613997892457936451903530140172288", "-119", "0 -1");
        op(10, "3", "30", "0 3221225472");
        op(10, "-3", "60", "0 -3458764513820540928");
        String[] wrong = {"121", "-121", "1073741825", "-1073741825", "1152921504606846977", MOST, "-" + MOST};
        for (String y : wrong) {
            op(10, "1", y, IAE);
            op(10, "0", y, IAE);
            op(10, "-1", y, IAE);
        }
    }

    private static void noSuchOperation() {
        int[] wrong = {-1, 11, 12, 255, Integer.MIN_VALUE, Integer.MAX_VALUE};
        for (int op : wrong) {
            Witness.refused("combine(" + op + ", 0, 0, 0)", x -> x.combine(op, 0, 0, 0), IAE);
            Witness.refused("combine(" + op + ", 0, 3, 0)", x -> x.combine(op, 0, 3, 0), IAE);
        }
    }

    private static void noSuchRegister() {
        int[] wrong = {-1, 8, 9, Integer.MIN_VALUE, Integer.MAX_VALUE};
        for (int r : wrong) {
            for (int op = 0; op <= 10; op++) {
                int o = op;
                Witness.refused("combine(" + op + ", " + r + ", 0, 0)", x -> x.combine(o, r, 0, 0), IAE);
                Witness.refused("combine(" + op + ", 0, " + r + ", 0)", x -> x.combine(o, 0, r, 0), IAE);
                Witness.refused("combine(" + op + ", 0, 0, " + r + ")", x -> x.combine(o, 0, 0, r), IAE);
            }
        }
    }

    private static void noNumber() {
        for (int op = 0; op <= 10; op++) {
            int o = op;
            Witness.refused("combine(" + op + ", 4, 0, 0)", x -> x.combine(o, 4, 0, 0), IAE);
            Witness.refused("combine(" + op + ", 0, 4, 0)", x -> x.combine(o, 0, 4, 0), IAE);
            Witness.refused("combine(" + op + ", 4, 4, 4)", x -> x.combine(o, 4, 4, 4), IAE);
        }
        Witness.refused("combine(3, 4, 3, 0)", x -> x.combine(3, 4, 3, 0), IAE);
        Witness.answered("combine(0, 0, 0, 4)", x -> x.combine(0, 0, 0, 4), 0, 4);
    }

    private static void toMayBeAOrB() {
        String[] want = {"1 9/2", "1 -5/2", "1 7/2", "1 2/7", "0 0", "1 1"};
        for (int op = 0; op <= 5; op++) {
            Bench a = new Bench().with(0, "1").with(1, "7/2");
            a.x.combine(op, 0, 1, 0);
            Bench.due("to is a, op " + op, a.held(0) + ", " + a.held(1), want[op] + ", 1 7/2");
            Bench b = new Bench().with(0, "1").with(1, "7/2");
            b.x.combine(op, 0, 1, 1);
            Bench.due("to is b, op " + op, b.held(0) + ", " + b.held(1), "0 1, " + want[op]);
        }
        String[] doubled = {"0 12", "0 0", "0 36", "2 1.0", "0 1", "0 0", "0 46656", "0 6", "0 6", "0 0", "0 384"};
        for (int op = 0; op <= 10; op++) {
            Bench t = new Bench().with(0, "6");
            t.x.combine(op, 0, 0, 0);
            Bench.due("a, b and to are one, op " + op, t.held(0), doubled[op]);
        }
        for (int to = 0; to < 8; to++) {
            int r = to;
            Witness.answered("combine(1, 0, 1, " + to + ")", x -> x.combine(1, 0, 1, r), 1, to);
            Witness.answered("combine(6, 1, 0, " + to + ")", x -> x.combine(6, 1, 0, r), 1, to);
            Witness.answered("combine(9, 0, 5, " + to + ")", x -> x.combine(9, 0, 5, r), 0, to);
        }
    }

    private static void theOrderOfExceptions() {
        for (int op = 3; op <= 5; op++) {
            int o = op;
            Witness.refused("combine(" + op + ", 0, 3, 8)", x -> x.combine(o, 0, 3, 8), IAE);
            Witness.refused("combine(" + op + ", 8, 3, 0)", x -> x.combine(o, 8, 3, 0), IAE);
            Witness.refused("combine(" + op + ", 5, 6, 5)", x -> x.combine(o, 5, 6, 5), AE);
            Witness.refused("combine(" + op + ", 7, 6, 6)", x -> x.combine(o, 7, 6, 6), AE);
            Witness.refused("combine(" + op + ", 5, 2, 2)", x -> x.combine(o, 5, 2, 2), ISE);
            Witness.refused("combine(" + op + ", 5, 2, 8)", x -> x.combine(o, 5, 2, 8), IAE);
        }
        for (int to = 0; to < 8; to++) {
            int r = to;
            Witness.refused("combine(0, 5, 0, " + to + ")", x -> x.combine(0, 5, 0, r), ISE);
            Witness.refused("combine(2, 5, 7, " + to + ") of REALS", x -> x.combine(2, 2, 7, r), ISE);
            Witness.refused("combine(3, 5, 3, " + to + ")", x -> x.combine(3, 5, 3, r), AE);
            Witness.refused("combine(6, 5, 0, " + to + ")", x -> x.combine(6, 5, 0, r), ISE);
            Witness.refused("combine(10, 5, 0, " + to + ")", x -> x.combine(10, 5, 0, r), ISE);
        }
        Witness.refused("combine(0, 5, 0, 8)", x -> x.combine(0, 5, 0, 8), IAE);
        Witness.refused("combine(10, 5, 0, -1)", x -> x.combine(10, 5, 0, -1), IAE);
    }
}
