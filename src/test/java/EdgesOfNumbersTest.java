/** NUMBERS and NEAREST under 'Terms': the last amount that is a number, and the first that is BEYOND. */
public final class EdgesOfNumbersTest {
    private static final String MOST = Bench.MOST;
    private static final String PAST = Bench.PAST;
    private static final String ISE = Bench.ISE;
    private static final String MOST_LESS_ONE = "1329227995784915872903807060280344574";
    private static final String TWO_TO_119 = "664613997892457936451903530140172288";
    private static final String TWO_TO_100 = "1267650600228229401496703205376";
    private static final String LEAST_REAL = "0x1p-100";
    private static final String MOST_REAL = "0x1.fffffffffffffp99";
    /** Half a unit below 2^100, and a bit less than that. */
    private static final String TOP_TIE = "1267650600228229331127959027712";
    private static final String BELOW_TOP_TIE = "1267650600228229331127959027711";

    public static void main(String[] args) {
        wholesAreBelow2To120();
        wholesFromOperations();
        upperPartsAreBelow2To120();
        lowerPartsAreBelow2To120();
        ratiosAreInLowestTerms();
        realsAreFrom2ToMinus100On();
        realsAreBelow2To100();
        zeroHasNoSign();
        nearestOfZero();
        nearestOfTwoTheEvenMultiple();
        nearestWithABitMoreOrLess();
        nearestReachesTheNextPowerOfTwo();
        nearestAtTheLeastReal();
        nearestAtTheGreatestReal();
        Bench.end("EdgesOfNumbersTest");
    }

    private static void op(int op, String a, String b, String want) {
        Bench.dueCombined(op, a, b, want);
    }

    private static void wholesAreBelow2To120() {
        Bench.dueRead(MOST, "0 " + MOST);
        Bench.dueRead("-" + MOST, "0 -" + MOST);
        Bench.dueRead(PAST, ISE);
        Bench.dueRead("-" + PAST, ISE);
        Bench.dueRead("0xffffffffffffffffffffffffffffff", "0 " + MOST);
        Bench.dueRead("-0xffffffffffffffffffffffffffffff", "0 -" + MOST);
        Bench.dueRead("0x1000000000000000000000000000000", ISE);
        Bench.dueRead("-0x1000000000000000000000000000000", ISE);
        Bench.dueTurned(0, MOST + "/1", "0 " + MOST);
        Bench.dueTurned(3, MOST, "0 -" + MOST);
        Bench.dueTurned(4, "-" + MOST, "0 " + MOST);
        Bench.dueRounded(MOST_LESS_ONE, -1, "0 1329227995784915872903807060280344570");
        Bench.dueRounded(MOST, -1, ISE);
        Bench.dueRounded("-" + MOST, -1, ISE);
    }

    private static void wholesFromOperations() {
        op(0, MOST_LESS_ONE, "1", "0 " + MOST);
        op(0, MOST, "1", ISE);
        op(1, "-" + MOST_LESS_ONE, "1", "0 -" + MOST);
        op(1, "-" + MOST, "1", ISE);
        op(2, "443075998594971957634602353426781525", "-3", "0 -" + MOST);
        op(2, TWO_TO_119, "2", ISE);
        op(2, TWO_TO_119, "-2", ISE);
        op(4, TWO_TO_119, "1/2", ISE);
        op(4, MOST, "1/1", "0 " + MOST);
        // the floor above is the last WHOLE, the floor below is BEYOND
        op(4, "769553050191267084312730403320199491", "11/19", "0 " + MOST);
        op(4, "-769553050191267084312730403320199491", "11/19", ISE);
        op(6, "-1099511627775", "3", "0 -1329227995781289095444966471291109375");
        op(6, "1099511627776", "3", ISE);
        op(7, "-" + MOST, "-" + MOST, "0 -" + MOST);
        op(7, "-" + MOST, "-2", ISE);
        op(9, "-1", MOST_LESS_ONE, "0 -" + MOST);
        op(9, "-1", MOST, ISE);
        op(10, "1", "119", "0 " + TWO_TO_119);
        op(10, "-1", "119", "0 -" + TWO_TO_119);
        op(10, "1", "120", ISE);
        op(10, "-1", "120", ISE);
    }

    private static void upperPartsAreBelow2To120() {
        Bench.dueRead(MOST + "/1", "1 " + MOST);
        Bench.dueRead(PAST + "/1", ISE);
        Bench.dueRead("-" + MOST + "/2", "1 -" + MOST + "/2");
        Bench.dueRead("-" + PAST + "/3", ISE);
        Bench.dueTurned(1, MOST, "1 " + MOST);
        op(0, MOST_LESS_ONE, "1/1", "1 " + MOST);
        op(0, MOST, "1/1", ISE);
        op(1, "-" + MOST, "1/1", ISE);
        op(2, TWO_TO_119 + "/3", "2", ISE);
        op(3, TWO_TO_119, "1/2", ISE);
        op(3, MOST, "1/1", "1 " + MOST);
        op(6, "1099511627775/2", "3", "1 1329227995781289095444966471291109375/8");
        op(6, "1099511627776/3", "3", ISE);
        op(1, MOST + "/2", "-1/2", "1 " + TWO_TO_119);
        op(0, MOST, "1/2", ISE);
        Bench.dueRounded(MOST_LESS_ONE + "/1", -1, "1 1329227995784915872903807060280344570");
        Bench.dueRounded(MOST + "/1", -1, ISE);
    }

    private static void lowerPartsAreBelow2To120() {
        Bench.dueRead("1/" + MOST, "1 1/" + MOST);
        Bench.dueRead("1/" + PAST, ISE);
        op(2, "1/" + TWO_TO_119, "1/2", ISE);
        op(3, "1/" + TWO_TO_119, "-2", ISE);
        op(3, "1/1", MOST, "1 1/" + MOST);
        op(0, "1/1152921504606846975", "1/1152921504606846977", "1 2305843009213693952/" + MOST);
        op(0, "1/1152921504606846976", "1/1152921504606846977", ISE);
        op(1, "1/1152921504606846976", "1/1152921504606846977", ISE);
        // 2^60 and 3^60: only the rest of them has a lower part that is too great
        op(4, "1/1152921504606846976", "1/42391158275216203514294433201", "0 36768468716");
        op(5, "1/1152921504606846976", "1/42391158275216203514294433201", ISE);
        op(6, "1/1099511627775", "3", "1 1/1329227995781289095444966471291109375");
        op(6, "1/1099511627776", "3", ISE);
        // 2^-100 times a bit more than 1: the lower part of the RATIO is 2^119, then 2^120
        Bench.dueTurned(1, "0x1.00002p-100", "1 524289/664613997892457936451903530140172288");
        Bench.dueTurned(1, "0x1.00001p-100", ISE);
    }

    private static void ratiosAreInLowestTerms() {
        Bench.dueRead("6/4", "1 3/2");
        Bench.dueRead("-6/3", "1 -2");
        Bench.dueRead("0/7", "1 0");
        op(0, "1/6", "1/3", "1 1/2");
        op(1, "5/6", "1/3", "1 1/2");
        op(2, "2/3", "3/4", "1 1/2");
        op(3, "2/3", "4/9", "1 3/2");
        op(5, "5/6", "1/3", "1 1/6");
        op(5, "5/6", "1/2", "1 1/3");
        Bench.dueTurned(1, "0.75", "1 3/4");
        Bench.dueRounded("1/8", 2, "1 3/25");
        Bench t = new Bench().with(0, "0/7").with(1, "-6/3");
        Bench.due("the lower part of 0", t.x.part(0, true, 0), 1);
        Bench.due("the upper part of 0", t.x.part(0, false, 0), 0);
        Bench.due("the lower part of -6/3", t.x.part(1, true, 0), 1);
        Bench.due("the upper part of -6/3", t.x.part(1, false, 0), 2);
    }

    private static void realsAreFrom2ToMinus100On() {
        op(2, "0x1p-50", "0x1p-50", "2 " + LEAST_REAL);
        op(2, "0x1p-50", "-0x1p-50", "2 -0x1p-100");
        op(2, "0x1p-50", "0x1p-51", ISE);
        op(3, LEAST_REAL, "2.0", ISE);
        op(3, LEAST_REAL, "-1", "2 -0x1p-100");
        op(1, "0x1p-99", LEAST_REAL, "2 " + LEAST_REAL);
        op(1, "0x1.0000000000001p-100", LEAST_REAL, ISE);
        op(0, "-0x1.8p-100", LEAST_REAL, ISE);
        op(5, "0x1.8p-100", LEAST_REAL, ISE);
        op(5, "0x1.8p-99", "0x1p-99", "2 " + LEAST_REAL);
        op(6, "0x1p-25", "4", "2 " + LEAST_REAL);
        op(6, "0x1p-25", "5", ISE);
        op(3, "1", TWO_TO_100, "2 " + LEAST_REAL);
        op(3, "1", "2535301200456458802993406410752", ISE);
        Bench.dueTurned(2, "1/" + TWO_TO_100, "2 " + LEAST_REAL);
        Bench.dueTurned(2, "-1/2535301200456458802993406410752", ISE);
        Bench.dueSum("2 " + LEAST_REAL, "0x1p-99", "-0x1p-100");
        Bench.dueSum(ISE, "0x1.8p-100", "-0x1p-100");
    }

    private static void realsAreBelow2To100() {
        op(2, "0x1p50", "0x1.fffffffffffffp49", "2 " + MOST_REAL);
        op(2, "0x1p50", "0x1p50", ISE);
        op(2, "0x1p50", "-0x1p50", ISE);
        op(0, "0x1p99", "0x1p99", ISE);
        op(0, "0x1p99", "0x1.ffffffffffffep98", "2 " + MOST_REAL);
        op(1, "-" + MOST_REAL, "0x1p47", ISE);
        op(3, MOST_REAL, "0x1p0", "2 " + MOST_REAL);
        op(3, "0x1p0", LEAST_REAL, ISE);
        op(3, "0x1p-1", LEAST_REAL, "2 0x1p99");
        op(4, "0x1p0", LEAST_REAL, ISE);
        op(4, "0x1p-1", LEAST_REAL, "2 0x1p99");
        op(6, "0x1p33", "3", "2 0x1p99");
        op(6, "0x1p25", "4", ISE);
        op(3, TWO_TO_100, "1", ISE);
        op(3, TWO_TO_100, "2", "2 0x1p99");
        Bench.dueTurned(2, TWO_TO_100, ISE);
        Bench.dueTurned(2, "-" + TWO_TO_100 + "/1", ISE);
        Bench.dueRead(TWO_TO_100 + ".", ISE);
        Bench.dueSum(ISE, "0x1p99", "0x1p99");
        Bench.dueSum("2 " + MOST_REAL, TWO_TO_100, "-0x1p47");
        // to 15 places before the point it is below 2^100, to 16 not
        Bench.dueRounded(MOST_REAL, -15, "2 0x1.ffffffffffffdp99");
        Bench.dueRounded(MOST_REAL, -16, ISE);
    }

    private static void zeroHasNoSign() {
        Bench.dueRead("-0", "0 0");
        Bench.dueRead("-0x0", "0 0");
        Bench.dueRead("-0b0", "0 0");
        Bench.dueRead("-0/5", "1 0");
        Bench.dueRead("-0.0", "2 0x0p0");
        Bench.dueRead("-.0e5", "2 0x0p0");
        op(0, "-0x1p0", "0x1p0", "2 0x0p0");
        op(1, "-0x1p0", "-0x1p0", "2 0x0p0");
        op(2, "-0x1p0", "0.0", "2 0x0p0");
        op(2, "-3", "0/1", "1 0");
        op(2, "0", "-5", "0 0");
        op(3, "0.0", "-2.0", "2 0x0p0");
        op(3, "0", "-2", "2 0x0p0");
        op(4, "0.0", "-2.0", "2 0x0p0");
        op(4, "-0.0", "2", "2 0x0p0");
        op(5, "-4.0", "2.0", "2 0x0p0");
        op(5, "4", "-2", "0 0");
        op(6, "0.0", "3", "2 0x0p0");
        Bench.dueTurned(0, "-0.5", "0 0");
        Bench.dueTurned(0, "-1/2", "0 0");
        Bench.dueTurned(3, "0.0", "2 0x0p0");
        Bench.dueTurned(3, "0", "0 0");
        Bench.dueTurned(3, "0/3", "1 0");
        Bench.dueRounded("-0.25", 0, "2 0x0p0");
        Bench.dueRounded("-1/2", 0, "1 0");
        Bench.dueRounded("-5", -1, "0 0");
        Bench.dueSum("2 0x0p0", "-1", "0x1p0");
        Bench.dueFormatted("-0.0", "+.1f", "+0.0");
        Bench.due("hash of -0", new Bench().with(0, "-0").x.hash(0), 0);
        Bench.due("order of -0.0 and 0", new Bench().with(0, "-0.0").with(1, "0").x.compare(0, 1), 0);
    }

    private static void nearestOfZero() {
        Bench.dueTurned(2, "0", "2 0x0p0");
        Bench.dueTurned(2, "0/9", "2 0x0p0");
        Bench.dueTurned(2, "0.0", "2 0x0p0");
        op(3, "0", "7", "2 0x0p0");
        op(0, "0", "0.0", "2 0x0p0");
        Bench.dueRead("0e0", "2 0x0p0");
        Bench.dueSum("2 0x0p0", "0", "0");
    }

    private static void nearestOfTwoTheEvenMultiple() {
        Bench.dueRead("9007199254740993.", "2 0x1p53");
        Bench.dueRead("9007199254740995.", "2 0x1.0000000000002p53");
        Bench.dueRead("-9007199254740993.", "2 -0x1p53");
        Bench.dueRead("4503599627370496.5", "2 0x1p52");
        Bench.dueRead("4503599627370497.5", "2 0x1.0000000000002p52");
        Bench.dueRead("2251799813685248.25", "2 0x1p51");
        Bench.dueRead("2251799813685248.75", "2 0x1.0000000000002p51");
        Bench.dueTurned(2, "9007199254740993", "2 0x1p53");
        Bench.dueTurned(2, "-9007199254740995", "2 -0x1.0000000000002p53");
        Bench.dueTurned(2, "9007199254740993/2", "2 0x1p52");
        Bench.dueTurned(2, "9007199254740995/2", "2 0x1.0000000000002p52");
        op(3, "9007199254740993", "2", "2 0x1p52");
        op(3, "9007199254740995", "-2", "2 -0x1.0000000000002p52");
        op(0, "0x1p53", "0x1p0", "2 0x1p53");
        op(0, "0x1p53", "0x1.8p1", "2 0x1.0000000000002p53");
        op(0, "0x1.0000000000001p0", "0x1p-53", "2 0x1.0000000000002p0");
        op(1, "0x1p0", "0x1p-54", "2 0x1p0");
        op(2, "0x1.0000004p0", "0x1.0000002p0", "2 0x1.0000006p0");
        op(2, "0x1.0000000000001p0", "0x1.8p0", "2 0x1.8000000000002p0");
        Bench.dueSum("2 0x1p53", "9007199254740992", "1");
        Bench.dueSum("2 0x1.0000000000002p53", "9007199254740992", "3");
    }

    private static void nearestWithABitMoreOrLess() {
        Bench.dueRead("9007199254740993.00000000000000000000001", "2 0x1.0000000000001p53");
        Bench.dueRead("9007199254740992.99999999999999999999999", "2 0x1p53");
        Bench.dueTurned(2, "9007226276338757222981/2000006", "2 0x1.0000000000001p52");
        Bench.dueTurned(2, "9007226276338757222977/2000006", "2 0x1p52");
        op(3, "9007226276338757222981", "2000006", "2 0x1.0000000000001p52");
        op(3, "9007226276338757222977", "2000006", "2 0x1p52");
        op(1, "0x1p0", "0x1.0000000000001p-54", "2 0x1.fffffffffffffp-1");
        op(0, "0x1p0", "0x1.0000000000001p-53", "2 0x1.0000000000001p0");
        op(0, "0x1p99", LEAST_REAL, "2 0x1p99");
        op(1, "0x1p99", LEAST_REAL, "2 0x1p99");
        Bench.dueSum("2 0x1.0000000000001p53", "9007199254740993", LEAST_REAL);
        Bench.dueSum("2 0x1p53", "9007199254740993", "-0x1p-100");
    }

    private static void nearestReachesTheNextPowerOfTwo() {
        Bench.dueRead("9007199254740991.5", "2 0x1p53");
        Bench.dueRead("9007199254740991.4", "2 0x1.fffffffffffffp52");
        Bench.dueRead("18014398509481983.", "2 0x1p54");
        Bench.dueTurned(2, "18014398509481983", "2 0x1p54");
        Bench.dueTurned(2, "-18014398509481983/2", "2 -0x1p53");
        op(3, "18014398509481983", "1", "2 0x1p54");
        op(0, "9007199254740991.", "0.5", "2 0x1p53");
    }

    private static void nearestAtTheLeastReal() {
        // 2^-100 less 2^-154 is just between 2^-100 and what is no REAL: the even one is 2^-100
        op(2, "0x1.ffffffcp-1", "0x1.0000002p-100", "2 " + LEAST_REAL);
        op(2, "-0x1.ffffffcp-1", "0x1.0000002p-100", "2 -0x1p-100");
        op(2, "0x1.fffffffffffffp-1", LEAST_REAL, ISE);
        Bench.dueRead("7.88860905221011762e-31", "2 " + LEAST_REAL);
        Bench.dueRead("7.8886090522101176161e-31", ISE);
        Bench.dueTurned(2, "1/1267650600228229471865447383040", "2 " + LEAST_REAL);
        Bench.dueTurned(2, "1/1267650600228229471865447383041", ISE);
        op(3, "1", "1267650600228229471865447383040", "2 " + LEAST_REAL);
        op(3, "1", "1267650600228229471865447383041", ISE);
        op(0, "0.0", "1/1267650600228229471865447383040", "2 " + LEAST_REAL);
        op(0, "0.0", "1/1267650600228229471865447383041", ISE);
    }

    private static void nearestAtTheGreatestReal() {
        Bench.dueRead(BELOW_TOP_TIE + ".", "2 " + MOST_REAL);
        Bench.dueRead("-" + BELOW_TOP_TIE + ".9999999", "2 -" + MOST_REAL);
        Bench.dueRead(TOP_TIE + ".", ISE);
        Bench.dueTurned(2, BELOW_TOP_TIE, "2 " + MOST_REAL);
        Bench.dueTurned(2, TOP_TIE, ISE);
        Bench.dueTurned(2, "-" + TOP_TIE + "/1", ISE);
        op(3, BELOW_TOP_TIE, "1", "2 " + MOST_REAL);
        op(3, "-" + TOP_TIE, "1", ISE);
        op(0, "0.0", BELOW_TOP_TIE, "2 " + MOST_REAL);
        op(0, "0.0", TOP_TIE, ISE);
        op(0, MOST_REAL, "0x1.fffffffffffffp45", "2 " + MOST_REAL);
        op(0, MOST_REAL, "0x1p46", ISE);
        op(2, "0x1.ffffffcp49", "0x1.0000002p50", ISE);
        Bench.dueSum("2 " + MOST_REAL, TWO_TO_100, "-70368744177665");
        Bench.dueSum(ISE, TWO_TO_100, "-70368744177664");
    }
}
