/** Promise 4 (read), READING and TENS: each sentence at its bounds. */
public final class EdgesOfReadTest {
    private static final String MOST = Bench.MOST;
    private static final String PAST = Bench.PAST;
    private static final String IAE = Bench.IAE;
    private static final String AE = Bench.AE;
    private static final String ISE = Bench.ISE;
    /** Twice the greatest amount of a WHOLE, and 2^121. */
    private static final String TWICE_MOST = "2658455991569831745807614120560689150";
    private static final String TWICE_PAST = "2658455991569831745807614120560689152";

    public static void main(String[] args) {
        theWholeLine();
        perhapsASign();
        hexDigits();
        binaryDigits();
        decimalDigits();
        eachCharacterAsADigit();
        underscoresBetweenTwoDigits();
        aRatio();
        beyondByItsLowestTermsAlone();
        aPointWithDigits();
        tens();
        tensOfUpTo999();
        theNearest();
        linesOf40Characters();
        aLowerPartZero();
        registers();
        theOrderOfExceptions();
        Bench.end("EdgesOfReadTest");
    }

    private static void read(String text, String want) {
        Bench.dueRead(text, want);
    }

    private static void none(String... texts) {
        for (String text : texts) {
            Bench.dueRead(text, IAE);
        }
    }

    private static void theWholeLine() {
        none("", " ", "7 ", " 7", "7 7", "7x", "x7", "0x7g", "0b12", "1/2 ", " 1/2", "1.5 ", " 1.5", "1e5 ", "1e5x");
        none("- 7", "+ 7", "0x 7", "1 /2", "1/ 2", "1. 5", "1e 5", "1e+ 5", "seven", "~", "7,000", "7;", "(7)",
                "7d", "7L");
    }

    private static void perhapsASign() {
        read("7", "0 7");
        read("+7", "0 7");
        read("-7", "0 -7");
        read("+0x7", "0 7");
        read("-0x7", "0 -7");
        read("+0b1", "0 1");
        read("-0b1", "0 -1");
        read("+7/2", "1 7/2");
        read("-7/2", "1 -7/2");
        read("+7.", "2 7.0");
        read("-.5", "2 -0.5");
        read("+7e1", "2 70.0");
        none("+", "-", "++7", "--7", "+-7", "-+7", "7+", "7-", "0x-7", "0x+7", "0b-1", "7/-2", "7/+2", "7.-5", ".+5");
    }

    private static void hexDigits() {
        read("0x0", "0 0");
        read("0x9", "0 9");
        read("0xa", "0 10");
        read("0xf", "0 15");
        read("0xA", "0 10");
        read("0xF", "0 15");
        read("0x0123456789abcdefABCDEF", "0 1375488932539311409843695");
        read("0xb1", "0 177");
        read("0xe1", "0 225");
        read("0x" + "0".repeat(38), "0 0");
        read("0x" + "0".repeat(8) + "f".repeat(30), "0 " + MOST);
        read("0x" + "f".repeat(38), ISE);
        none("0x", "0X1", "0xg", "0xG", "0x/", "0x:", "0x@", "0x`", "0x1g", "0x1G", "0x1/", "0x1:", "0x1@", "0x1`");
        none("00x1", "1x1", "x1", "0x0x1", "0x1.", "0x.1", "0x1/2", "1/0x2", "0xe+1", "0xe-1", "0x1p1", "0x1e+1",
                "a", "f");
    }

    private static void binaryDigits() {
        read("0b0", "0 0");
        read("0b1", "0 1");
        read("0b10", "0 2");
        read("0b" + "1".repeat(38), "0 274877906943");
        none("0b", "0B1", "0b2", "0b12", "0b9", "0ba", "00b1", "1b1", "b1", "0b0b1", "0b1.", "0b.1", "0b1/1",
                "1/0b1", "0b1e1", "0b1e+1");
    }

    private static void decimalDigits() {
        read("0", "0 0");
        read("9", "0 9");
        read("00", "0 0");
        read("0123456789", "0 123456789");
        read("0".repeat(40), "0 0");
        read("0".repeat(3) + MOST, "0 " + MOST);
        none("/", ":", "1:", "1a", "1f", "a1");
    }

    /** The worth of a character as a digit of a base, or -1; capitals and small letters are the same. */
    private static int digit(int c, int base) {
        int d = "0123456789abcdef".indexOf(c >= 'A' && c <= 'F' ? c + 32 : c);
        return d < base ? d : -1;
    }

    private static void eachCharacterAsADigit() {
        for (int c = 32; c <= 126; c++) {
            String one = String.valueOf((char) c);
            int hex = digit(c, 16);
            int decimal = digit(c, 10);
            int binary = digit(c, 2);
            read("0x" + one, hex < 0 ? IAE : "0 " + hex);
            read("0x1" + one, hex < 0 ? IAE : "0 " + (16 + hex));
            read("0x" + one + "1", hex < 0 ? IAE : "0 " + (16 * hex + 1));
            read("0x1_" + one, hex < 0 ? IAE : "0 " + (16 + hex));
            read("0b" + one, binary < 0 ? IAE : "0 " + binary);
            read("0b1" + one, binary < 0 ? IAE : "0 " + (2 + binary));
            read("0b1_" + one, binary < 0 ? IAE : "0 " + (2 + binary));
            read(one, decimal < 0 ? IAE : "0 " + decimal);
            read("1_" + one, decimal < 0 ? IAE : "0 " + (10 + decimal));
            read("1" + one + "1", decimal >= 0 ? "0 " + (101 + 10 * decimal) : inTheMiddle(c));
            read("1/" + one, decimal < 0 ? IAE : decimal == 0 ? AE : decimal == 1 ? "1 1" : "1 1/" + decimal);
            read("1." + one, decimal < 0 ? IAE : "2 1." + decimal);
            read("." + one, decimal < 0 ? IAE : "2 0." + decimal);
            read("1e0" + one, decimal < 0 ? IAE : "2 1" + "0".repeat(decimal) + ".0");
            read("1e" + one, decimal < 0 ? IAE : "2 1" + "0".repeat(decimal) + ".0");
            read("1e-2" + one, decimal < 0 ? IAE : "2 1e-2" + decimal);
        }
    }

    /** What 1, a character that is no digit, and 1 are. */
    private static String inTheMiddle(int c) {
        switch (c) {
            case '_': return "0 11";
            case '/': return "1 1";
            case '.': return "2 1.1";
            case 'e':
            case 'E': return "2 10.0";
            default: return IAE;
        }
    }

    private static void underscoresBetweenTwoDigits() {
        read("1_2", "0 12");
        read("1_2_3", "0 123");
        read("0_0", "0 0");
        read("0x1_2", "0 18");
        read("0xa_F", "0 175");
        read("0b1_0", "0 2");
        read("1_2/3_6", "1 1/3");
        read("1_2.2_5", "2 12.25");
        read("1_2.", "2 12.0");
        read(".2_5", "2 0.25");
        read("1_2e1", "2 120.0");
        read("2_5.5_0e1", "2 255.0");
        none("_", "_1", "1_", "1__2", "1___2", "+_1", "-_1", "0_x1", "0x_1", "0x1_", "0x1__2", "0_b1", "0b_1",
                "0b1_", "0b1__0");
        none("_1/2", "1_/2", "1/_2", "1/2_", "1__2/3", "1/2__3", "1_.5", "1._5", "1.5_", "_.5", "._5", "1.2__3",
                "1__2.5");
        none("1_e1", "1e_1", "1e1_", "1e1_0", "1e+_1", "1.5_e1", "1._e1", "0x_", "0b_", "._", "1_2_");
    }

    private static void aRatio() {
        read("1/2", "1 1/2");
        read("0/1", "1 0");
        read("2/1", "1 2");
        read("007/0014", "1 1/2");
        none("/", "1/", "/1", "1//2", "1/2/3", "1/2.", "1/.5", "1./2", ".5/2", "1/2e1", "1e1/2", "+/2", "1/ ", "1:2");
    }

    private static void beyondByItsLowestTermsAlone() {
        read(MOST + "/1", "1 " + MOST);
        read(PAST + "/1", ISE);
        read(PAST + "/2", "1 664613997892457936451903530140172288");
        read(TWICE_MOST + "/2", "1 " + MOST);
        read("-" + TWICE_MOST + "/2", "1 -" + MOST);
        read(TWICE_PAST + "/2", ISE);
        read("1/" + MOST, "1 1/" + MOST);
        read("1/" + PAST, ISE);
        read("2/" + TWICE_MOST, "1 1/" + MOST);
        read("2/" + TWICE_PAST, ISE);
        read("0/" + "9".repeat(38), "1 0");
        read("3/" + "9".repeat(37), ISE);
        read("9".repeat(38) + "/9", ISE);
        read("9".repeat(38) + "/3", ISE);
        read("-" + "9".repeat(37) + "/9", "1 -" + "1".repeat(37));
    }

    private static void aPointWithDigits() {
        read("1.", "2 1.0");
        read("1.5", "2 1.5");
        read(".5", "2 0.5");
        read("0.", "2 0.0");
        read(".0", "2 0.0");
        read("00.500", "2 0.5");
        none(".", "+.", "-.", "..", "1..", "..5", "1..5", "1.5.", "1.5.2", ".5.", "1,5", "1.a", "a.1", "1.x",
                "0x1.8");
    }

    private static void tens() {
        read("1e0", "2 1.0");
        read("1E0", "2 1.0");
        read("1e1", "2 10.0");
        read("1e+1", "2 10.0");
        read("1e-1", "2 0.1");
        read("1E+1", "2 10.0");
        read("1E-1", "2 0.1");
        read("1.e1", "2 10.0");
        read("1.5e1", "2 15.0");
        read(".5e1", "2 5.0");
        read("1e-0", "2 1.0");
        read("1e+0", "2 1.0");
        read("15e-1", "2 1.5");
        none("e", "e1", "E1", ".e1", "+e1", "1e", "1E", "1e+", "1e-", "1.e", ".5e", "1e+-1", "1e--1", "1ee1",
                "1eE1", "1e1e1");
        none("1e1.", "1e.1", "1e1.5", "1e1/2", "1ea", "1e0x1", "1f1", "1d1", "1 e1", "1e1 ", "e+1", "1+1", "1e1+1");
    }

    private static void tensOfUpTo999() {
        read("1e01", "2 10.0");
        read("1e001", "2 10.0");
        read("1e-001", "2 0.1");
        read("0e999", "2 0.0");
        read("0e-999", "2 0.0");
        read("-0.000e+999", "2 0.0");
        read("1e999", ISE);
        read("1e-999", ISE);
        read("-1e100", ISE);
        read("1e30", "2 1e+30");
        read("1e31", ISE);
        read("1e-30", "2 1e-30");
        read("1e-31", ISE);
        read("1.2676506002282293e30", "2 0x1.fffffffffffffp99");
        read("1.2676506002282294e30", ISE);
        read("7.888609052210119e-31", "2 0x1.0000000000001p-100");
        read("7.888609052210117e-31", ISE);
        read("." + "0".repeat(34) + "1e35", "2 1.0");
        read("1" + "0".repeat(34) + "e-35", "2 0.1");
        read("1" + "0".repeat(34) + "e-65", ISE);
        read("1" + "0".repeat(34) + "e-64", "2 1e-30");
        none("1e0000", "1e0001", "1e1000", "1e-0001", "1e+0001", "1e12345");
    }

    private static void theNearest() {
        read("0.1", "2 0x1.999999999999ap-4");
        read("0.3", "2 0x1.3333333333333p-2");
        read("9007199254740993.", "2 0x1p53");
        read("9007199254740993e0", "2 0x1p53");
        read("900719925474099.3e1", "2 0x1p53");
        read("90071992547409930e-1", "2 0x1p53");
        read("9007199254740993.00000000000000000001e0", "2 0x1.0000000000001p53");
        read("8.98846567431158e29", "2 0x1.6b0a8e892p99");
        read("1e23", "2 0x1.52d02c7e14af6p76");
        read("1e22", "2 0x1.0f0cf064dd592p73");
    }

    private static void linesOf40Characters() {
        read("0".repeat(39) + "7", "0 7");
        read("+" + "0".repeat(38) + "7", "0 7");
        read("0x" + "0".repeat(37) + "7", "0 7");
        read("0b" + "0".repeat(37) + "1", "0 1");
        read("1/" + "0".repeat(37) + "2", "1 1/2");
        read("0".repeat(37) + "1/2", "1 1/2");
        read("0".repeat(37) + "1.5", "2 1.5");
        read("." + "0".repeat(38) + "1", ISE);
        read("." + "0".repeat(29) + "8" + "0".repeat(9), "2 8e-30");
        read("0_0_0_0_0_0_0_0_0_0_0_0_0_0_0_0_0_0_0_01", "0 1");
        read("9".repeat(40), ISE);
        read("9".repeat(39) + ".", ISE);
        read("9".repeat(35) + "e-10", "2 1e+25");
        none("0".repeat(39) + "_", "0".repeat(39) + "x", "0".repeat(39) + "e", "0".repeat(39) + "/",
                "1e" + "0".repeat(38));
    }

    private static void aLowerPartZero() {
        read("1/0", AE);
        read("-1/0", AE);
        read("0/0", AE);
        read("0/00", AE);
        read("1/0_0", AE);
        read(PAST + "/0", AE);
        read("9".repeat(38) + "/0", AE);
        none("1/0x0", "1/-0", "1/0.", "x/0", "1/0/0", "/0");
    }

    private static void registers() {
        String[] texts = {"5", "1/2", "0.5"};
        for (int kind = 0; kind < 3; kind++) {
            for (int r = 0; r < 8; r++) {
                Bench t = new Bench();
                Bench.due("the kind of " + texts[kind], t.read(r, texts[kind]), kind);
                Bench.due("register " + r, t.x.kind(r), kind);
                Bench.due("the one behind", t.x.kind((r + 1) % 8), -1);
            }
            int[] wrong = {-1, 8, 9, Integer.MIN_VALUE, Integer.MAX_VALUE};
            for (int r : wrong) {
                Witness.refusedWithLine("read(" + r + ")", texts[kind], x -> x.read(r), IAE);
            }
        }
        Bench t = new Bench().with(2, "5");
        Bench.due("over another kind", t.read(2, "1/2") + t.read(2, "0.5") + t.read(2, "7"), "120");
        Bench.due("what stands there", t.held(2), "0 7");
    }

    private static void theOrderOfExceptions() {
        for (int r = 0; r < 8; r++) {
            int to = r;
            Witness.refusedWithLine("read", "x", x -> x.read(to), IAE);
            Witness.refusedWithLine("read", "", x -> x.read(to), IAE);
            Witness.refusedWithLine("read", "1/0", x -> x.read(to), AE);
            Witness.refusedWithLine("read", PAST + "/0", x -> x.read(to), AE);
            Witness.refusedWithLine("read", PAST, x -> x.read(to), ISE);
            Witness.refusedWithLine("read", "1/" + PAST, x -> x.read(to), ISE);
            Witness.refusedWithLine("read", "1e31", x -> x.read(to), ISE);
        }
        Witness.refusedWithLine("read", "1/0", x -> x.read(8), IAE);
        Witness.refusedWithLine("read", PAST, x -> x.read(8), IAE);
        Witness.refusedWithLine("read", PAST, x -> x.read(-1), IAE);
    }
}
