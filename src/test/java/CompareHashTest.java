/** Promises 12 (compare) and 13 (hash). */
public final class CompareHashTest {
    private static final String M = "2305843009213693951";

    public static void main(String[] args) {
        orders();
        nothingToCompare();
        hashes();
        sameWorthSameHash();
        Bench.end("CompareHashTest");
    }

    private static void order(String a, String b, int want) {
        Bench t = new Bench().with(0, a).with(5, b);
        Bench.due(a + " to " + b, t.x.compare(0, 5), want);
        Bench.due(b + " to " + a, t.x.compare(5, 0), -want);
        Bench.due(a + " to itself", t.x.compare(0, 0), 0);
    }

    private static void orders() {
        order("1", "2", -1);
        order("-1", "-2", 1);
        order("-1", "1", -1);
        order("0", "1", -1);
        order("0", "-1/2", 1);
        order("0", "0.0", 0);
        order("1/2", "0.5", 0);
        order("2/1", "2", 0);
        order("1/3", "0.3333333333333333", 1);
        order("1/10", "0.1", -1);
        order("9007199254740993", "9007199254740992.", 1);
        order("-9007199254740993", "-9007199254740992.", -1);
        order("1329227995784915872903807060280344575", "1e30", 1);
        order("1/1329227995784915872903807060280344575", "1e-30", -1);
        order("123456789012345678/123456789012345679", "123456789012345679/123456789012345680", -1);
        order("-1e-30", "1e-30", -1);
    }

    private static void nothingToCompare() {
        Bench t = new Bench().with(0, "1");
        int[] none = {1, 8, -1, Integer.MAX_VALUE};
        for (int r : none) {
            Bench.due("compare(0, " + r + ")", t.x.compare(0, r), 2);
            Bench.due("compare(" + r + ", 0)", t.x.compare(r, 0), 2);
            Bench.due("hash(" + r + ")", t.x.hash(r), 0);
        }
    }

    private static void hash(String a, long want) {
        Bench.due("hash of " + a, new Bench().with(4, a).x.hash(4), want);
    }

    private static void hashes() {
        hash("0", 0);
        hash("1", 1);
        hash("-1", -2);
        hash("-2", -2);
        hash("-17", -17);
        hash("2305843009213693950", 2305843009213693950L);
        hash(M, 0);
        hash("-" + M, 0);
        hash("2305843009213693952", 1);
        hash("-2305843009213693952", -2);
        hash("1/2", 1152921504606846976L);
        hash("-7/2", -1152921504606846979L);
        hash("-3/2", -1152921504606846977L);
        hash("0.5", 1152921504606846976L);
        hash("-3.4", -922337203685477379L);
        hash("1/" + M, 314159);
        hash("-1/" + M, -314159);
        hash("5/4611686018427387902", 314159);
        hash("-" + M + "/2", 0);
        hash("1/3", 1537228672809129301L);
        hash("-2305843009213693953/2", -2);
        hash("1e-30", hashByBigIntegers("1e-30"));
    }

    private static long hashByBigIntegers(String real) {
        java.math.BigDecimal v = new java.math.BigDecimal(Double.parseDouble(real));
        java.math.BigInteger m = new java.math.BigInteger(M);
        java.math.BigInteger lower = java.math.BigInteger.TEN.pow(v.scale()).modInverse(m);
        return v.unscaledValue().multiply(lower).mod(m).longValueExact();
    }

    private static void sameWorthSameHash() {
        String[][] same = {{"5", "5/1", "5.0"}, {"-1", "-1/1", "-1.0"}, {"0", "0/3", "0.0"}, {"1/8", "0.125"},
            {"10000000000000000000000", "1e22"}};
        for (String[] texts : same) {
            long first = new Bench().with(0, texts[0]).x.hash(0);
            for (String text : texts) {
                hash(text, first);
            }
        }
    }
}
