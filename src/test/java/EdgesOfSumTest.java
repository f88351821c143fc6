/** Promise 11 (sum): each sentence at its bounds. */
public final class EdgesOfSumTest {
    private static final String MOST = Bench.MOST;
    private static final String IAE = Bench.IAE;
    private static final String ISE = Bench.ISE;

    public static void main(String[] args) {
        eachBitIsARegister();
        thoseWithoutANumberArePassedOver();
        ofNoneZero();
        theExactSumAndOneNearest();
        whatComesOnTheWayMayBeBeyond();
        beyond();
        aSetIsFrom0To255();
        noRatioInTheSet();
        noRegister();
        toMayBeInTheSet();
        Bench.end("EdgesOfSumTest");
    }

    private static void eachBitIsARegister() {
        for (int set = 0; set < 256; set++) {
            Bench t = new Bench();
            int want = 0;
            for (int r = 0; r < 8; r++) {
                t.x.whole(r, 1 << r);
                want += set & 1 << r;
            }
            int s = set;
            Bench.due("sum(" + set + ", 0)", Bench.outcome(() -> t.x.sum(s, 0)), 2);
            Bench.due("value after sum(" + set + ", 0)", t.x.value(0), (double) want);
        }
    }

    private static void thoseWithoutANumberArePassedOver() {
        for (int r = 0; r < 8; r++) {
            Bench t = new Bench();
            t.x.whole(r, 5);
            int to = (r + 1) % 8;
            int others = 255 - (1 << r);
            Bench.due("sum(255)", Bench.outcome(() -> t.x.sum(255, to)) + " " + t.held(to), "2 2 5.0");
            Bench u = new Bench();
            u.x.real(r, 0.5);
            Bench.due("sum of others", Bench.outcome(() -> u.x.sum(others, to)) + " " + u.held(to), "2 2 0.0");
        }
    }

    private static void ofNoneZero() {
        for (int to = 0; to < 8; to++) {
            int r = to;
            Bench t = new Bench();
            Bench.due("sum(0, " + to + ")", Bench.outcome(() -> t.x.sum(0, r)) + " " + t.held(to), "2 2 0.0");
            Bench u = new Bench();
            Bench.due("sum(255, " + to + ")", Bench.outcome(() -> u.x.sum(255, r)) + " " + u.held(to), "2 2 0.0");
            Witness.answered("sum(0, " + to + ")", x -> x.sum(0, r), 2, to);
            Witness.answered("sum(16, " + to + ")", x -> x.sum(16, r), 2, to);
        }
        Bench.due("it has no sign", Double.toHexString(summed("-5", "5").x.value(3)), "0x0.0p0");
    }

    private static Bench summed(String... numbers) {
        Bench t = new Bench();
        for (int i = 0; i < numbers.length; i++) {
            t.with(4 + i, numbers[i]);
        }
        t.x.sum(240, 3);
        return t;
    }

    private static void theExactSumAndOneNearest() {
        Bench.dueSum("2 0.6", "0.1", "0.2", "0.3");
        Bench.dueSum("2 0x1p0", "1e30", "1", "-1e30");
        Bench.dueSum("2 0x1p-100", "0x1p99", "0x1p-100", "-0x1p99");
        Bench.dueSum("2 0x1.0000000000001p53", "9007199254740992.", "1", "0x1p-100");
        Bench.dueSum("2 0x1p53", "9007199254740992.", "1", "-0x1p-100");
        Bench.dueSum("2 0x1p53", "9007199254740992.", "0.5", "0.5");
        Bench.dueSum("2 9007199254740996.0", "9007199254740993", "1.0", "1.0", "0.5");
        // a WHOLE does not become its NEAREST first
        Bench.dueSum("2 1.0", "9007199254740993", "-9007199254740992.");
        Bench.dueSum("2 1.0", MOST, "-1329227995784915872903807060280344574");
        Bench.dueSum("2 -0.5", "-9007199254740993", "9007199254740992", "0.5");
        Bench.dueSum("2 -1.5", "-2", "0.5");
        Bench.dueSum("2 0x1p53", "9007199254740993");
        Bench.dueSum("2 -7.0", "-7");
        Bench.dueSum("2 0x1.5p1", "2.625");
    }

    private static void whatComesOnTheWayMayBeBeyond() {
        Bench.dueSum("2 0x1p99", "0x1p99", "0x1p99", "-0x1p99");
        Bench.dueSum("2 -0x1p99", "-0x1p99", "-0x1p99", "-0x1p99", "1267650600228229401496703205376");
        Bench.dueSum("2 1.0", MOST, "1", "-" + MOST);
        Bench.dueSum("2 0x1p0", "-" + MOST, MOST, "1");
        Bench.dueSum("2 0x1p-100", "0x1.8p-99", "-0x1p-99", "0x1p-100", "-0x1p-100");
        Bench.dueSum("2 0x1.0000000000001p-100", "0x1.0000000000001p-100", "-0x1p-100", "0x1p-100");
    }

    private static void beyond() {
        Bench.dueSum(ISE, MOST);
        Bench.dueSum(ISE, "-" + MOST, "0.0");
        Bench.dueSum(ISE, "1267650600228229401496703205376");
        Bench.dueSum("2 0x1.fffffffffffffp99", "1267650600228229401496703205376", "-70368744177665");
        Bench.dueSum(ISE, "1267650600228229401496703205376", "-70368744177664");
        Bench.dueSum(ISE, "0x1p99", "0x1p99");
        Bench.dueSum(ISE, "0x1.0000000000001p-100", "-0x1p-100");
        Bench.dueSum(ISE, "0x1.8p-100", "-0x1p-100");
        Bench.dueSum(ISE, MOST, MOST, MOST, MOST);
        for (int to = 0; to < 8; to++) {
            int r = to;
            Witness.refused("sum(32, " + to + ")", x -> x.sum(32, r), ISE);
        }
        Witness.refused("sum(32, 8)", x -> x.sum(32, 8), IAE);
        Witness.refused("sum(34, 0)", x -> x.sum(34, 0), IAE);
        Witness.refused("sum(288, 0)", x -> x.sum(288, 0), IAE);
    }

    private static void aSetIsFrom0To255() {
        int[] wrong = {-1, 256, 257, -256, 511, 1024, Integer.MIN_VALUE, Integer.MAX_VALUE};
        for (int set : wrong) {
            for (int to = 0; to < 8; to++) {
                int r = to;
                Witness.refused("sum(" + set + ", " + to + ")", x -> x.sum(set, r), IAE);
            }
        }
        Bench t = new Bench().with(7, "5");
        Bench.due("sum(128, 0)", Bench.outcome(() -> t.x.sum(128, 0)) + " " + t.held(0), "2 2 5.0");
        Bench.due("sum(255, 1)", Bench.outcome(() -> t.x.sum(255, 1)) + " " + t.held(1), "2 2 10.0");
    }

    private static void noRatioInTheSet() {
        for (int r = 0; r < 8; r++) {
            Bench t = new Bench();
            t.x.whole((r + 1) % 8, 5);
            t.with(r, "2/1");
            int bit = 1 << r;
            int to = (r + 2) % 8;
            Bench.due("one of them is a RATIO", Bench.outcome(() -> t.x.sum(bit, to)), IAE);
            Bench.due("one of all is a RATIO", Bench.outcome(() -> t.x.sum(255, to)), IAE);
            Bench.due("nothing is there", t.held(to), "none");
            Bench.due("the others", Bench.outcome(() -> t.x.sum(255 - bit, to)) + " " + t.held(to), "2 2 5.0");
        }
        Witness.refused("sum(2, 0)", x -> x.sum(2, 0), IAE);
        Witness.refused("sum(3, 1)", x -> x.sum(3, 1), IAE);
        Witness.refused("sum(128, 7)", x -> x.sum(128, 7), IAE);
        Witness.answered("sum(77, 1)", x -> x.sum(77, 1), 2, 1);
    }

    private static void noRegister() {
        int[] none = {-1, 8, 9, Integer.MIN_VALUE, Integer.MAX_VALUE};
        for (int r : none) {
            Witness.refused("sum(1, " + r + ")", x -> x.sum(1, r), IAE);
            Witness.refused("sum(0, " + r + ")", x -> x.sum(0, r), IAE);
        }
    }

    private static void toMayBeInTheSet() {
        Bench t = new Bench().with(0, "1").with(1, "2.5").with(7, "-7");
        Bench.due("sum(131, 1)", Bench.outcome(() -> t.x.sum(131, 1)) + " " + t.held(1), "2 2 -3.5");
        Bench.due("sum(131, 7)", Bench.outcome(() -> t.x.sum(131, 7)) + " " + t.held(7), "2 2 -9.5");
        Bench.due("sum(128, 7)", Bench.outcome(() -> t.x.sum(128, 7)) + " " + t.held(7), "2 2 -9.5");
        t.with(2, "1/2");
        Bench.due("over a RATIO", Bench.outcome(() -> t.x.sum(1, 2)) + " " + t.held(2), "2 2 1.0");
    }
}
