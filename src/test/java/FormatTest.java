/** Promises 15 (format) and 16 (letter), and the SPEC. */
public final class FormatTest {
    private static final String MOST = "1329227995784915872903807060280344575";

    public static void main(String[] args) {
        wholes();
        fixed();
        percent();
        scientific();
        general();
        partings();
        signs();
        fillAndAlign();
        noSpecs();
        specsThatDoNotSuit();
        whatIsLeft();
        Bench.end("FormatTest");
    }

    private static void format(String number, String spec, String want) {
        Bench.due(number + " by '" + spec + "'", new Bench().with(0, number).formatted(0, spec), want);
    }

    private static void wholes() {
        format("42", "", "42");
        format("-42", "d", "-42");
        format("0", "d", "0");
        format("42", "#d", "42");
        format("42", "b", "101010");
        format("42", "#b", "0b101010");
        format("0", "#b", "0b0");
        format("-255", "x", "-ff");
        format("-255", "#x", "-0xff");
        format("-255", "#X", "-0XFF");
        format("48879", "X", "BEEF");
        format(MOST, "x", "ffffffffffffffffffffffffffffff");
    }

    private static void fixed() {
        format("42", "f", "42.000000");
        format("-7/3", ".4f", "-2.3333");
        format("1/2", ".0f", "0");
        format("3/2", ".0f", "2");
        format("5/2", ".0f", "2");
        format("5/2", "#.0f", "2.");
        format("2.675", ".2f", "2.67");
        format("0.1", ".20f", "0.10000000000000000555");
        format("1/8", ".2f", "0.12");
        format("3/8", ".02f", "0.38");
        format("-1/1000", ".1f", "-0.0");
        format("0", ".3f", "0.000");
        format("0.0", "f", "0.000000");
        format(MOST, ".1f", MOST + ".0");
        format("1e30", ".0f", "1000000000000000019884624838656");
        format("999999/1000000", ".2f", "1.00");
    }

    private static void percent() {
        format("-7/3", ".1%", "-233.3%");
        format("1/8", "%", "12.500000%");
        format("1/8", ".0%", "12%");
        format("3/8", ".0%", "38%");
        format("1/8", "#.0%", "12.%");
        format("0", ".0%", "0%");
        format("0.1", ".20%", "10.00000000000000055511%");
        format(MOST, ".0%", MOST + "00%");
        format("12345", ",.0%", "1,234,500%");
    }

    private static void scientific() {
        format("1234567", "e", "1.234567e+06");
        format("1234567", ".0e", "1e+06");
        format("1234567", "#.0e", "1.e+06");
        format("1234567", ".3E", "1.235E+06");
        format("1234567", ".1e", "1.2e+06");
        format("9999995/10", ".5e", "1.00000e+06");
        format("9999994/10", ".5e", "9.99999e+05");
        format("25", ".0e", "2e+01");
        format("35", ".0e", "4e+01");
        format("0", ".2e", "0.00e+00");
        format("0.0", "#.0e", "0.e+00");
        format("1e-30", "e", "1.000000e-30");
        format("1/" + MOST, ".3e", "7.523e-37");
        format(MOST, ".20e", "1.32922799578491587290e+36");
        format("-1/3", ".0e", "-3e-01");
        format("95", ".0e", "1e+02");
        format("-1/" + MOST, ".20E", "-7.52316384526264005100E-37");
    }

    private static void general() {
        format("1e-7", "g", "1e-07");
        format("1e-7", "#.3G", "1.00E-07");
        format("1e-7", "", "1e-07");
        format("7/2", "", "3.5");
        format("-7/3", "G", "-2.33333");
        format("1234567", "g", "1.23457e+06");
        format("1234567", "G", "1.23457E+06");
        format("123456", "g", "123456");
        format("123456", "#g", "123456.");
        format("999999.5", "g", "1e+06");
        format("999999.4", "g", "999999");
        format("0.0001", "g", "0.0001");
        format("0.00001", "g", "1e-05");
        format("99999/1000000000", ".4g", "0.0001");
        format("0", "g", "0");
        format("0", "#g", "0.00000");
        format("0.0", "", "0");
        format("0.0", ".0g", "0");
        format("0.0", "#.0g", "0.");
        format("5/2", ".0g", "2");
        format("7/2", ".1g", "4");
        format("25", ".0g", "2e+01");
        format("100", "g", "100");
        format("100", ".2g", "1e+02");
        format("100", "#.2g", "1.0e+02");
        format("1.5", "#g", "1.50000");
        format("1/3", ".20g", "0.33333333333333333333");
        format("1/3000", ".20g", "0.00033333333333333333333");
        format("12345678901234567890", ".20g", "12345678901234567890");
        format("123456789012345678901", ".20g", "1.234567890123456789e+20");
    }

    private static void partings() {
        format("1234567", ",", "1,234,567");
        format("1234567", "_d", "1_234_567");
        format("123", ",", "123");
        format("-1234", ",", "-1,234");
        format("1234567", "_x", "12_d687");
        format("1234567", "#_b", "0b1_0010_1101_0110_1000_0111");
        format("1234567", ",.2f", "1,234,567.00");
        format("1234567/1000", "_.4f", "1_234.5670");
        format("1234567", ",g", "1.23457e+06");
        format("123456", ",g", "123,456");
        format("1234567", ",e", "1.234567e+06");
        format("1234", "012,", "00000001,234");
    }

    private static void signs() {
        format("5", "+", "+5");
        format("5", " ", " 5");
        format("5", "-", "5");
        format("-5", "+", "-5");
        format("-5", " ", "-5");
        format("0", "+d", "+0");
        format("0.0", "+.1f", "+0.0");
        format("-1/1000", "+.1f", "-0.0");
        format("255", "+#x", "+0xff");
    }

    private static void fillAndAlign() {
        format("5", "3", "  5");
        format("5", "<3", "5  ");
        format("5", "^4", " 5  ");
        format("5", "^5", "  5  ");
        format("-5", "=4", "-  5");
        format("-5", "04", "-005");
        format("-5", "*<4", "-5**");
        format("-5", "*^5", "*-5**");
        format("-5", "<04", "-500");
        format("-5", "x>04", "xx-5");
        format("-5", "x<04", "-5xx");
        format("255", "#010x", "0x000000ff");
        format("255", "*=#10x", "0x******ff");
        format("255", "*>#10x", "******0xff");
        format("255", "+#10x", "     +0xff");
        format("5", "<<3", "5<<");
        format("5", "^^3", "^5^");
        format("5", "=>3", "==5");
        format("5", "0<3", "500");
        format("5", " >3", "  5");
        format("5", "+>3", "++5");
        format("5", "40", " ".repeat(39) + "5");
        format("12345", "3", "12345");
        format("12345", "1", "12345");
        format("-7/3", ">=010.1%", "->>>233.3%");
        format("1234567", "*^14_", "**1_234_567***");
        format("5", "5<", "5");
        format("5", "=", "5");
        format("5", "0", "5");
        format("1.5", "010", "00000001.5");
    }

    private static void noSpecs() {
        String[] wrong = {
            "D", "dd", "d5", "5d5", "00", "005", "41", "041", "99", "100", "0041", "+-", "##", "#+", "0#", "5+",
            "5#", ",,", ",_", "_,", ".", ".f", ".21f", ".99f", ".100f", ".005f", ".5.5f", ".5,f", ",5", "c", "n", "s",
            "F", "o", "B", "%%", "*5", "ab<5", "*<<5", "5 <", " d ", "  ", "=*5", "d#", "f.2", "-0x5z", "+ 5"
        };
        for (String spec : wrong) {
            format("5", spec, Bench.IAE);
            format("0.5", spec, Bench.IAE);
        }
    }

    private static void specsThatDoNotSuit() {
        String[] forWholes = {"d", "b", "x", "X", "5d", "#x"};
        for (String spec : forWholes) {
            format("1/2", spec, Bench.IAE);
            format("4/2", spec, Bench.IAE);
            format("2.0", spec, Bench.IAE);
        }
        String[] notForWholes = {".2d", ".0b", ".2x", ".2X", ".2", "10.0", ",b", ",x", ",X", "#,x"};
        for (String spec : notForWholes) {
            format("5", spec, Bench.IAE);
        }
        format("5/2", ".2", "2.5");
        format("2.0", "10.0", "         2");
    }

    private static void whatIsLeft() {
        Bench t = new Bench().with(0, "5").with(1, "1/2");
        Bench.due("format", t.formatted(0, "3"), "  5");
        Bench.due("the line is empty", Bench.outcome(() -> t.x.read(2)), Bench.IAE);
        Bench.due("by an empty SPEC", Bench.outcome(() -> t.x.format(0)), 1);
        Bench.due("no SPEC", t.formatted(0, "zz"), Bench.IAE);
        Bench.due("the sheet stays", t.sheet(), "5");
        Bench.due("the line is empty then", Bench.outcome(() -> t.x.format(1)), 3);
        Bench.due("no SPEC for it", t.formatted(1, "d"), Bench.IAE);
        Bench.due("the sheet stays", t.sheet(), "0.5");
        int[] none = {7, 8, -1};
        for (int r : none) {
            Bench.due("format(" + r + ")", t.formatted(r, "e"), Bench.IAE);
            Bench.due("the line is empty then", Bench.outcome(() -> t.x.format(1)), 3);
        }
        Bench.due("the longest", t.with(0, MOST).formatted(0, "#_b").length(), 151);
        Bench.due("letter(150)", t.x.letter(150), (int) '1');
        Bench.due("letter(151)", t.x.letter(151), -1);
    }
}
