/** Promise 4: read, and READING. */
public final class ReadTest {
    private static final String BEYOND = "1329227995784915872903807060280344576";
    private static final String MOST = "1329227995784915872903807060280344575";

    public static void main(String[] args) {
        wholes();
        ratios();
        reals();
        noSuchLines();
        beyond();
        lowerZero();
        whatIsLeft();
        Bench.end("ReadTest");
    }

    private static void read(String text, String want) {
        Bench t = new Bench();
        String answer = t.read(3, text);
        if (answer.startsWith("throws.")) {
            Bench.due("read of '" + text + "'", answer, want);
            Bench.due("no number after " + text, t.x.kind(3), -1);
        } else {
            Bench.due("kind of '" + text + "'", t.x.kind(3), answer);
            Bench.due("read of '" + text + "'", t.held(3), want);
        }
    }

    private static void wholes() {
        read("0", "0 0");
        read("-0", "0 0");
        read("+17", "0 17");
        read("-17", "0 -17");
        read("007", "0 7");
        read("1_000_000", "0 1000000");
        read("1_0", "0 10");
        read("0x1f", "0 31");
        read("-0xFf", "0 -255");
        read("+0xaB_cD", "0 43981");
        read("0b101", "0 5");
        read("-0b1_1", "0 -3");
        read("0x0", "0 0");
        read("0x9aAfF", "0 633599");
        read("0b0", "0 0");
        read("0xe3", "0 227");
        read("0xb1", "0 177");
        read(MOST, "0 " + MOST);
        read("-" + MOST, "0 -" + MOST);
        read("0xffffffffffffffffffffffffffffff", "0 " + MOST);
        read("0x00000000ffffffffffffffffffffffffffffff", "0 " + MOST);
    }

    private static void ratios() {
        read("6/4", "1 3/2");
        read("-7/2", "1 -7/2");
        read("+4/2", "1 2");
        read("0/5", "1 0");
        read("-0/5", "1 0");
        read("1_0/2_0", "1 1/2");
        read("00/07", "1 0");
        read("1234567890123456789/9876543210987654321", "1 13717421/109739369");
    }

    private static void reals() {
        read("1.", "2 1.0");
        read(".5", "2 0.5");
        read("-2.50", "2 -2.5");
        read("-0.0", "2 0.0");
        read("0e999", "2 0.0");
        read("0.0e-999", "2 0.0");
        read("1e3", "2 1000.0");
        read("1E3", "2 1000.0");
        read("1e+3", "2 1000.0");
        read("1.e-3", "2 0.001");
        read(".5e1", "2 5.0");
        read("1e003", "2 1000.0");
        read("1_0.2_5e1", "2 102.5");
        read("0.1", "2 0.1");
        read("9007199254740993.", "2 9007199254740992.0");
        read("9007199254740995.", "2 9007199254740996.0");
        read("9007199254740993.00000000000000000000001", "2 9007199254740994.0");
        read("1e30", "2 1e+30");
        read("1e-30", "2 1e-30");
        read("7.888609052210118e-31", "2 7.888609052210118e-31");
        read(".000000000000000000000000000000000001e36", "2 1.0");
        read("100000000000000000000000000000000000e-35", "2 1.0");
    }

    private static void noSuchLines() {
        String[] wrong = {
            "", "+", "-", "--1", "+-1", " 1", "1 ", "1 2", "_1", "1_", "1__0", "0x", "0b", "0xg", "0b2", "0X1",
            "0B1", "0x_1", "0x1_", "0x1__2", "0b_1", "0_x1", "00x1", "0x1.0", "0x1/2", "0b1e3", "0b1.0", "x1",
            "1/", "/2", "/", "1/-2", "1/+2", "1/2/3", "1/0x2", "1/2.0", "1.5/2", "1/2e3", "1/_2", "1_/2",
            ".", "-.", ".e3", "e3", "1e", "1e+", "1e-", "1e1234", "1ea", "1e1a", "1e12f", "1e1_0", "1e 3",
            "1e3.", "1e3e3", "1._5",
            "1_.5", "1.5_", "1..5", "1.2.3", "1.5_e3", "1ee3", "a", "f", "0xe+3", "1,000", "0b", "NaN", "1d"
        };
        for (String text : wrong) {
            read(text, Bench.IAE);
        }
    }

    private static void beyond() {
        read(BEYOND, Bench.ISE);
        read("-" + BEYOND, Bench.ISE);
        read("0x1000000000000000000000000000000", Bench.ISE);
        read("1e31", Bench.ISE);
        read("1e999", Bench.ISE);
        read("1e-31", Bench.ISE);
        read("-1e-999", Bench.ISE);
        read("7.8e-31", Bench.ISE);
        read("1267650600228229401496703205376.", Bench.ISE);
        read("1267650600228229401496703205375.", Bench.ISE);
        read("1267650600228229300000000000000.", "2 1.2676506002282293e+30");
        read("1/" + BEYOND, Bench.ISE);
        read(BEYOND + "/1", Bench.ISE);
        read(BEYOND + "/2", "1 664613997892457936451903530140172288");
        read("2/" + BEYOND, "1 1/664613997892457936451903530140172288");
    }

    private static void lowerZero() {
        read("1/0", Bench.AE);
        read("0/0", Bench.AE);
        read("-5/0_0", Bench.AE);
        read(BEYOND + "/0", Bench.AE);
        Bench t = new Bench();
        Bench.due("no register comes first", t.read(8, "1/0"), Bench.IAE);
        Bench.due("no register comes first", t.read(-1, BEYOND), Bench.IAE);
    }

    private static void whatIsLeft() {
        Bench t = new Bench().with(0, "5");
        String[] lines = {"x", "1/0", BEYOND, "6"};
        String[] answers = {Bench.IAE, Bench.AE, Bench.ISE, "0"};
        for (int i = 0; i < lines.length; i++) {
            Bench.due("read of " + lines[i], t.read(0, lines[i]), answers[i]);
            Bench.due("register 0", t.held(0), i == 3 ? "0 6" : "0 5");
            Bench.due("the line is empty", Bench.outcome(() -> t.x.read(1)), Bench.IAE);
        }
        Bench.due("read without a register", t.read(9, "7"), Bench.IAE);
        Bench.due("the line is empty then", Bench.outcome(() -> t.x.read(1)), Bench.IAE);
    }
}
