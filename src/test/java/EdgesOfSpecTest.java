/** The parts of a SPEC under 'Terms': each sentence at its bounds. (The bodies: EdgesOfBodyTest.) */
public final class EdgesOfSpecTest {
    private static final String MOST = Bench.MOST;
    private static final String IAE = Bench.IAE;

    public static void main(String[] args) {
        eachPartPerhaps();
        inThisOrder();
        anyCharacterIsAFill();
        aSecondCharacterThatIsAnAlign();
        anAlignAlone();
        theSign();
        theZero();
        theWidthFrom1To40();
        theWidthAndWhatIsAsLong();
        theParting();
        thePrecisionFrom0To20();
        theTypes();
        withoutAType();
        forWholesAlone();
        noCommaForBits();
        whereTheFillComes();
        halfOfWhatIsOdd();
        betweenSignAndTheRest();
        aFillHasNoParting();
        linesOf40Characters();
        Bench.end("EdgesOfSpecTest");
    }

    private static void format(String number, String spec, String want) {
        Bench.dueFormatted(number, spec, want);
    }

    private static void none(String number, String... specs) {
        for (String spec : specs) {
            Bench.dueFormatted(number, spec, IAE);
        }
    }

    private static void eachPartPerhaps() {
        format("7", "", "7");
        format("7", "*<", "7");
        format("7", "<", "7");
        format("7", "+", "+7");
        format("7", "#", "7");
        format("7", "0", "7");
        format("7", "3", "  7");
        format("7777", ",", "7,777");
        format("3.5", ".1", "4");
        format("7", "d", "7");
        format("-7654.5", "*^+#015,.1f", "***-7,654.5****");
        format("7654", "*=+#012_x", "+0x*****1de6");
        format("7654", "=+#012_x", "+0x000001de6");
        format("7654", " #012_b", " 0b1_1101_1110_0110");
    }

    private static void inThisOrder() {
        none("7", "<5<", "5<5<", "#+", "0+", "5+", ",+", "d+", "0#", "5#", ",#", "d#");
        none("7", "+5+", "50#", "5,5", ",5", ",0", "d5", "d,", ",_", "_,", ",,", "__", "d0", "f.2", "f5", "f,",
                "f+", "f#");
        none("7.5", ".2,f", ".2_f", ".2+f", ".2#f", ".25", ".2.2f", "e.2", "ff", "ef", "gd", ".2ff", "%f", "f%",
                "%%");
        none("7", "++", "+-", "-+", "- ", "  ", "##", "#0#", "+#+");
        format("7", "+#05,d", "+0007");
        format("7.5", "-#07_.1f", "00007.5");
        format("7", "0<5", "70000");
        format("7", "#<5", "7####");
        format("7", "+<5", "7++++");
        format("7", "5<5", "75555");
        format("7", ",<5", "7,,,,");
        format("7", "d<5", "7dddd");
        format("7", ".<5", "7....");
    }

    private static void anyCharacterIsAFill() {
        String aligns = "<>=^";
        for (int c = 32; c <= 126; c++) {
            String f = String.valueOf((char) c);
            for (int i = 0; i < aligns.length(); i++) {
                String want = i == 0 ? "-7" + f + f : i == 1 ? f + f + "-7" : i == 2 ? "-" + f + f + "7" : f + "-7" + f;
                format("-7", f + aligns.charAt(i) + "4", want);
            }
        }
    }

    private static void aSecondCharacterThatIsAnAlign() {
        format("7", "<<3", "7<<");
        format("7", "<>3", "<<7");
        format("7", "=<3", "7==");
        format("7", "^^3", "^7^");
        format("7", ">=3", ">>7");
        format("-7", ">=4", "->>7");
        format("7", "==3", "==7");
        format("7", "+>3", "++7");
        format("7", " >3", "  7");
        format("7", "0>3", "007");
        format("7", "3>3", "337");
        format("7", "<<", "7");
        format("7", "d>", "7");
        none("7", "<<<", "<<<3", "***", "**<3", "+<<3", "<+<3", "3<<", "3<3<", "+3<", "<3<", "abc", "*", "**",
                "*3", "~", "a3");
    }

    private static void anAlignAlone() {
        format("-7", "<4", "-7  ");
        format("-7", ">4", "  -7");
        format("-7", "=4", "-  7");
        format("-7", "^4", " -7 ");
        format("-7", "<", "-7");
        format("-7", "^", "-7");
        format("-7", "<+#4d", "-7  ");
        // where 0 is in the spec it is the FILL of an ALIGN alone
        format("-7", "<04", "-700");
        format("-7", ">04", "00-7");
        format("-7", "=04", "-007");
        format("-7", "^04", "0-70");
    }

    private static void theSign() {
        String[] numbers = {"7", "-7", "0"};
        String[][] want = {{"7", "+7", "7", " 7"}, {"-7", "-7", "-7", "-7"}, {"0", "+0", "0", " 0"}};
        String[] signs = {"", "+", "-", " "};
        for (int n = 0; n < numbers.length; n++) {
            for (int s = 0; s < signs.length; s++) {
                format(numbers[n], signs[s], want[n][s]);
                format(numbers[n], signs[s] + "d", want[n][s]);
                format(numbers[n], signs[s] + ".0f", want[n][s]);
                format(numbers[n] + "/1", signs[s], want[n][s]);
                format(numbers[n] + ".0", signs[s] + "g", want[n][s]);
            }
        }
        // below 0, also when all digits are 0
        format("-1/1000", ".1f", "-0.0");
        format("-1/1000", "+.0f", "-0");
        format("-0.001", " .2f", "-0.00");
        format("-1/100000", ".0%", "-0%");
        format("-1/1000", "06.1f", "-000.0");
        // 0 is not below 0
        format("-0.0", ".1f", "0.0");
        format("-0/5", "+.1f", "+0.0");
        format("-0", " d", " 0");
        format("255", "+x", "+ff");
        format("255", " #X", " 0XFF");
        format("-255", "+#b", "-0b11111111");
    }

    private static void theZero() {
        format("7", "0", "7");
        format("7", "05", "00007");
        format("-7", "05", "-0007");
        format("+7", "+05", "+0007");
        format("7", " 05", " 0007");
        format("255", "#08x", "0x0000ff");
        format("-255", "#08X", "-0X000FF");
        format("7.5", "08.2f", "00007.50");
        format("1/8", "08.1%", "00012.5%");
        format("7", "*05", IAE);
        format("7", "*<05", "7****");
        format("-7", "*=05", "-***7");
        format("7", "010", "0000000007");
        none("7", "00", "005", "0005", "000");
    }

    private static void theWidthFrom1To40() {
        format("7", "1", "7");
        format("7", "2", " 7");
        format("7", "9", "        7");
        format("7", "10", "         7");
        format("7", "39", " ".repeat(38) + "7");
        format("7", "40", " ".repeat(39) + "7");
        format("7", "040", "0".repeat(39) + "7");
        format("7", "<40", "7" + " ".repeat(39));
        none("7", "41", "42", "49", "50", "99", "100", "400", "140", "041", "099", "<41", "*<41", "41d", "+41",
                "#41");
        none("0.5", "41", "41f", "99g", "100e", "041%");
    }

    private static void theWidthAndWhatIsAsLong() {
        format("12345", "4", "12345");
        format("12345", "5", "12345");
        format("12345", "6", " 12345");
        format("-1234", "5", "-1234");
        format("-1234", "6", " -1234");
        format("-1234", "06", "-01234");
        format("1234", "+5", "+1234");
        format("1234", "+6", " +1234");
        format("255", "#4x", "0xff");
        format("255", "#5x", " 0xff");
        format("1234", "5,", "1,234");
        format("1234", "6,", " 1,234");
        format("1/2", "4.0%", " 50%");
        format("1/2", "3.0%", "50%");
        format(MOST, "37", MOST);
        format(MOST, "38", " " + MOST);
        format(MOST, "1", MOST);
    }

    private static void theParting() {
        String[][] some = {{"0", "0", "0"}, {"123", "123", "123"}, {"999", "999", "999"}, {"1000", "1,000", "1_000"},
            {"-1000", "-1,000", "-1_000"}, {"-999", "-999", "-999"}, {"999999", "999,999", "999_999"},
            {"1000000", "1,000,000", "1_000_000"}, {"12345678", "12,345,678", "12_345_678"}};
        for (String[] s : some) {
            format(s[0], ",", s[1]);
            format(s[0], ",d", s[1]);
            format(s[0], "_", s[2]);
            format(s[0], ",.0f", s[1]);
            format(s[0] + "/1", "_.2f", s[2] + ".00");
            format(s[0] + ".0", ",.20g", s[1]);
        }
        format("65535", "_x", "ffff");
        format("65536", "_x", "1_0000");
        format("4294967296", "_x", "1_0000_0000");
        format("-65536", "_X", "-1_0000");
        format("65536", "#_x", "0x1_0000");
        format("15", "_b", "1111");
        format("16", "_b", "1_0000");
        format("-256", "#_b", "-0b1_0000_0000");
        // only before the point
        format("1/3", ",.9f", "0.333333333");
        format("12345678/10000", "_.6f", "1_234.567800");
        format("12.34567", ",.1%", "1,234.6%");
        format("1234567", ",e", "1.234567e+06");
        format("1234567", ",.7g", "1,234,567");
        format("1234567", ",.6g", "1.23457e+06");
        format("1234567/10", ",.8g", "123,456.7");
        format("999999.5", ",.0f", "1,000,000");
    }

    private static void thePrecisionFrom0To20() {
        format("1/3", ".0f", "0");
        format("1/3", ".1f", "0.3");
        format("1/3", ".9f", "0.333333333");
        format("1/3", ".10f", "0.3333333333");
        format("1/3", ".19f", "0.3333333333333333333");
        format("1/3", ".20f", "0.33333333333333333333");
        format("1/3", ".00f", "0");
        format("1/3", ".01f", "0.3");
        format("1/3", ".09f", "0.333333333");
        format("1/3", ".20e", "3.33333333333333333333e-01");
        format("1/3", ".20g", "0.33333333333333333333");
        format("1/3", ".20%", "33.33333333333333333333%");
        format("1/3", ".20", "0.33333333333333333333");
        none("1/3", ".", ".f", ".g", ".%", ".21f", ".22f", ".29f", ".30f", ".99f", ".21", ".21e", ".21g", ".21%");
        none("1/3", ".000f", ".001f", ".020f", ".100f", ".200f", ".-1f", ".+1f", ". 1f", ".1_f", ".1,f", "..1f",
                ".1.f", ".x");
        none("7", ".", ".f", ".21f", ".020e", ".21");
    }

    private static void theTypes() {
        String types = "dbxXeEfgG%";
        for (int c = 32; c <= 126; c++) {
            String t = String.valueOf((char) c);
            boolean flag = "<>=^+- #0,_".indexOf(c) >= 0 || c >= '1' && c <= '9';
            if (types.indexOf(c) < 0 && !flag) {
                none("7", t, "5" + t, "+" + t, t + t);
                none("1/2", t, ".1" + t);
                none("0.5", t, ".1" + t);
            }
        }
        String[] want = {"7", "111", "7", "7", "7.000000e+00", "7.000000E+00", "7.000000", "7", "7", "700.000000%"};
        for (int i = 0; i < want.length; i++) {
            String type = types.substring(i, i + 1);
            format("7", type, want[i]);
            format("7/1", type, i < 4 ? IAE : want[i]);
            format("7.0", type, i < 4 ? IAE : want[i]);
            none("7", type + type, type + " ", type + "5");
        }
        none("7", "D", "B", "F", "n", "c", "s", "o", "O", "i", "u");
    }

    private static void withoutAType() {
        format("42", "", "42");
        format("1234567", "", "1234567");
        format("-42", "5", "  -42");
        format("42", "#", "42");
        format("42", "+#06,", "+00042");
        none("42", ".0", ".2", "5.2", ".20", "+.1", ",.3", "<.1");
        format("1/3", "", "0.333333");
        format("1/3", ".3", "0.333");
        format("1234567/1", "", "1.23457e+06");
        format("4/2", "#", "2.00000");
        format("0.1", "", "0.1");
        format("0.1", ".20", "0.10000000000000000555");
        format("1234567.0", ".7", "1234567");
        format("1234567.0", ",.7", "1,234,567");
        format("2.5", "08", "000002.5");
        format("0.0", "#.3", "0.00");
    }

    private static void forWholesAlone() {
        String[] types = {"d", "b", "x", "X"};
        String[] others = {"1/2", "4/2", "0/1", "0.5", "2.0", "0.0", "-7/1"};
        for (String type : types) {
            for (String other : others) {
                none(other, type, "5" + type, "+#0" + type, "_" + type, "*<5" + type, ".2" + type);
            }
            none("7", ".0" + type, ".2" + type, ".20" + type, "5.2" + type, "_.1" + type, "#.1" + type);
        }
        format("7", "5d", "    7");
        format("7", "5b", "  111");
    }

    private static void noCommaForBits() {
        none("65536", ",b", ",x", ",X", "#,x", "20,b", "020,X", "+,x", "*<9,x", ",.2x");
        format("65536", "_b", "1_0000_0000_0000_0000");
        format("65536", ",d", "65,536");
        format("65536", "_d", "65_536");
        format("65536", "x", "10000");
    }

    private static void whereTheFillComes() {
        format("-7", "*<6", "-7****");
        format("-7", "*>6", "****-7");
        format("-7", "*^6", "**-7**");
        format("-7", "*=6", "-****7");
        format("-7", "6", "    -7");
        format("-7", "06", "-00007");
        format("7", "+06", "+00007");
        format("7", "*=6", "*****7");
        format("-255", "*<#9x", "-0xff****");
        format("-255", "*>#9x", "****-0xff");
        format("-255", "*^#9x", "**-0xff**");
        format("-255", "*=#9x", "-0x****ff");
        format("-255", "#9x", "    -0xff");
        format("-255", "#09x", "-0x0000ff");
        format("-0.5", "*=+8.1%", "-**50.0%");
        format("-1e20", "*=9", "-***1e+20");
    }

    private static void halfOfWhatIsOdd() {
        format("7", "^1", "7");
        format("7", "*^2", "7*");
        format("7", "*^3", "*7*");
        format("7", "*^4", "*7**");
        format("7", "*^5", "**7**");
        format("77", "*^5", "*77**");
        format("-7", "*^3", "-7*");
        format("7", "^40", " ".repeat(19) + "7" + " ".repeat(20));
    }

    private static void betweenSignAndTheRest() {
        format("7", "=+5", "+   7");
        format("7", "= 5", "    7");
        format("7", "*= 5", " ***7");
        format("7", "=6b", "   111");
        format("7", "=#6b", "0b 111");
        format("7", "=#8b", "0b   111");
        format("7", "=+#9b", "+0b   111");
        format("7", "*=#6d", "*****7");
        format("255", "*=#7X", "0X***FF");
        format("7/2", "*=+7.1f", "+***3.5");
    }

    private static void aFillHasNoParting() {
        format("1234", "010,", "000001,234");
        format("1234", "010_", "000001_234");
        format("7", "08,", "00000007");
        format("-1234", "010,.1f", "-001,234.0");
        format("65536", "#012_x", "0x00001_0000");
        format("1234", ",>10,", ",,,,,1,234");
    }

    private static void linesOf40Characters() {
        none("7", "0".repeat(40), "7".repeat(40), "d".repeat(40), " ".repeat(40), "<".repeat(40), "+".repeat(40));
        format("-7654.5", "_=+#040_.20f", "-" + "_".repeat(13) + "7_654.50000000000000000000");
    }
}
