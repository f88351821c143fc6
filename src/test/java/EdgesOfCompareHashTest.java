/** Promises 12 (compare) and 13 (hash), and HASH: each sentence at its bounds. */
public final class EdgesOfCompareHashTest {
    private static final String MOST = Bench.MOST;
    private static final String M = "2305843009213693951";
    private static final String M_LESS_ONE = "2305843009213693950";
    private static final int[] NO_NUMBER = {4, -1, 8, 9, Integer.MIN_VALUE, Integer.MAX_VALUE};

    public static void main(String[] args) {
        byWhatTheyAreWorth();
        ofEveryTwoKinds();
        nextToEachOther();
        twoIfOneHasNoNumber();
        hashesOfWholes();
        hashesOfRatios();
        hashesOfReals();
        minusTwoInPlaceOfMinusOne();
        multiplesOfMBelow();
        worthTheSameHashedTheSame();
        zeroIfItHasNoNumber();
        looksChangeNothing();
        Bench.end("EdgesOfCompareHashTest");
    }

    private static void order(String a, String b, int want) {
        NumberTower x = new Bench().with(0, a).with(7, b).x;
        Bench.due("order of " + a + " and " + b, x.compare(0, 7), want);
        Bench.due("order of " + b + " and " + a, x.compare(7, 0), -want);
        Bench.due("order of " + a + " and itself", x.compare(0, 0), 0);
    }

    private static void byWhatTheyAreWorth() {
        order("0", "1", -1);
        order("-1", "0", -1);
        order("-2", "-1", -1);
        order("-1", "1", -1);
        order("1/3", "1/2", -1);
        order("-1/2", "-1/3", -1);
        order("0/1", "1/2", -1);
        order("0.25", "0.5", -1);
        order("-0.5", "-0.25", -1);
        order("0.0", "0.5", -1);
        order("-0.5", "0.0", -1);
        order(MOST, "-" + MOST, 1);
        order("7", "7", 0);
    }

    private static void ofEveryTwoKinds() {
        String[][] same = {{"0", "0/5", "0.0"}, {"2", "4/2", "2.0"}, {"-3", "-3/1", "-3.0"},
            {"1267650600228229260759214850048", "1267650600228229260759214850048/1", "0x1.fffffffffffffp99"}};
        for (String[] row : same) {
            for (String a : row) {
                for (String b : row) {
                    order(a, b, 0);
                }
                order(a, "-" + MOST, 1);
                order(a, MOST, -1);
            }
        }
        order("1/2", "0.5", 0);
        order("-5/2", "-2.5", 0);
        order("2", "5/2", -1);
        order("3", "5/2", 1);
        order("2", "2.5", -1);
        order("-2", "-2.5", 1);
        order("7/3", "2.5", -1);
    }

    private static void nextToEachOther() {
        order("1329227995784915872903807060280344574", MOST, -1);
        order("9007199254740993", "9007199254740992.", 1);
        order("9007199254740991", "9007199254740992.", -1);
        order("-9007199254740993", "-9007199254740992.", -1);
        order("1/3", "0x1.5555555555555p-2", 1);
        order("1/3", "0x1.5555555555556p-2", -1);
        order("1/10", "0.1", -1);
        order("0x1p-100", "1/1267650600228229401496703205376", 0);
        order("0x1p-100", "1/1267650600228229401496703205375", -1);
        order("0x1p-100", "1/1267650600228229401496703205377", 1);
        order("0x1.0000000000001p0", "1", 1);
        order("0x1.fffffffffffffp-1", "1/1", -1);
        order("0x1.0000000000001p-100", "0x1p-100", 1);
        order("1/" + MOST, "0", 1);
        order("-1/" + MOST, "0.0", -1);
        order("123456789012345678/123456789012345679", "123456789012345679/123456789012345680", -1);
        order("0x1.fffffffffffffp99", "1267650600228229260759214850047", 1);
        order("0x1.fffffffffffffp99", "1267650600228229260759214850049", -1);
    }

    private static void twoIfOneHasNoNumber() {
        for (int r : NO_NUMBER) {
            for (int other = 0; other < 8; other++) {
                int o = other;
                Witness.answered("compare(" + r + ", " + other + ")", x -> x.compare(r, o), 2, -1);
                Witness.answered("compare(" + other + ", " + r + ")", x -> x.compare(o, r), 2, -1);
            }
            for (int s : NO_NUMBER) {
                Bench.due("compare(" + r + ", " + s + ")", new NumberTower().compare(r, s), 2);
            }
        }
    }

    private static void hash(String a, long want) {
        Bench.due("hash of " + a, new Bench().with(3, a).x.hash(3), want);
    }

    private static void hashesOfWholes() {
        hash("0", 0);
        hash("1", 1);
        hash("-1", -2);
        hash("2", 2);
        hash("-2", -2);
        hash("-3", -3);
        hash(M_LESS_ONE, 2305843009213693950L);
        hash("-" + M_LESS_ONE, -2305843009213693950L);
        hash(M, 0);
        hash("-" + M, 0);
        hash("2305843009213693952", 1);
        hash("-2305843009213693952", -2);
        hash("-2305843009213693953", -2);
        hash("-2305843009213693954", -3);
        hash("9223372036854775807", 7 - 4);
        hash("1152921504606846976", 1L << 60);
        hash(MOST, (1L << 59) - 1);
        hash("-" + MOST, 1 - (1L << 59));
    }

    private static void hashesOfRatios() {
        hash("0/9", 0);
        hash("1/2", 1L << 60);
        hash("-1/2", -(1L << 60));
        hash("1/4", 1L << 59);
        hash("3/2", (1L << 60) + 1);
        hash("-7/2", -(1L << 60) - 3);
        hash("1/3", 1537228672809129301L);
        hash("2/3", 768614336404564651L);
        hash("4/2", 2);
        hash(M + "/2", 0);
        hash("-" + M + "/2", 0);
        hash("2305843009213693952/3", 1537228672809129301L);
        hash("1/2305843009213693952", 1);
        hash("1/" + M_LESS_ONE, 2305843009213693950L);
        hash("-1/" + M_LESS_ONE, -2305843009213693950L);
        hash(M_LESS_ONE + "/1", 2305843009213693950L);
        hash("1/" + MOST, 768614336404564649L);
    }

    private static void hashesOfReals() {
        hash("0.0", 0);
        hash("1.0", 1);
        hash("0.5", 1L << 60);
        hash("-0.5", -(1L << 60));
        hash("-2.0", -2);
        hash("2305843009213693952.", 1);
        // 2^61 is 1 modulo M
        hash("0x1p62", 2);
        hash("0x1p99", 1L << 38);
        hash("0x1p-61", 1);
        hash("0x1p-62", 1L << 60);
        hash("0x1p-100", 1L << 22);
        hash("-0x1p-100", -(1L << 22));
        hash("0x1.8p-100", (1L << 22) + (1L << 21));
        hash("0x1.0000000000001p-100", (1L << 22) + (1L << 31));
        hash("0x1.0000000000001p-60", 2 + (1L << 10));
        hash("0x1.fffffffffffffp99", (1L << 39) - (1L << 47) + 2305843009213693951L);
    }

    private static void minusTwoInPlaceOfMinusOne() {
        hash("-1", -2);
        hash("-1/1", -2);
        hash("-1.0", -2);
        hash("-0x1p61", -2);
        hash("-0x1p-61", -2);
        hash("-1/2305843009213693952", -2);
        hash("-2305843009213693953/2", -2);
        hash("1", 1);
    }

    private static void multiplesOfMBelow() {
        hash("1/" + M, 314159);
        hash("-1/" + M, -314159);
        hash("5/" + M, 314159);
        hash("-5/4611686018427387902", -314159);
        hash("7/6917529027641081853", 314159);
        // M itself above and below is worth 1; 0 by it is 0
        hash(M + "/" + M, 1);
        hash("-" + M + "/" + M, -2);
        hash("0/" + M, 0);
        hash("1/2305843009213693950", 2305843009213693950L);
    }

    private static void worthTheSameHashedTheSame() {
        String[][] same = {{"0", "0/3", "0.0"}, {"5", "10/2", "5.0"}, {"-1", "-2/2", "-1.0"},
            {"10000000000000000000000", "1e22", "10000000000000000000000/1"},
            {"1267650600228229260759214850048", "0x1.fffffffffffffp99"}, {"1/8", "0.125"}, {"-5/2", "-2.5"},
            {"1/1267650600228229401496703205376", "0x1p-100"}};
        for (String[] row : same) {
            NumberTower x = new Bench().with(0, row[0]).x;
            for (String text : row) {
                hash(text, x.hash(0));
            }
        }
    }

    private static void zeroIfItHasNoNumber() {
        for (int r : NO_NUMBER) {
            Witness.answered("hash(" + r + ")", x -> x.hash(r), 0, -1);
            Bench.due("hash(" + r + ")", new NumberTower().hash(r), 0);
        }
    }

    private static void looksChangeNothing() {
        for (int r = 0; r < 8; r++) {
            int a = r;
            NumberTower fresh = new Witness("12").t.x;
            Witness.answered("hash(" + r + ")", x -> x.hash(a), fresh.hash(r), -1);
            Witness.answered("compare(" + r + ", 1)", x -> x.compare(a, 1), fresh.compare(r, 1), -1);
            Witness.answered("kind(" + r + ")", x -> x.kind(a), fresh.kind(r), -1);
            Witness.answered("part(" + r + ")", x -> x.part(a, true, 1), fresh.part(r, true, 1), -1);
            Witness.answered("letter(" + r + ")", x -> x.letter(a), fresh.letter(r), -1);
        }
    }
}
