/** Promise 15 (format) and the bodies of a SPEC under 'Terms': each sentence at its bounds. */
public final class EdgesOfBodyTest {
    private static final String MOST = Bench.MOST;
    private static final String IAE = Bench.IAE;

    public static void main(String[] args) {
        digitsOfEachBase();
        roundedToPlaces();
        sixPlacesWithoutAPrecision();
        aPointIfThereArePlacesOrSharp();
        ofAHundredTimesTheNumber();
        theExponentOfTheNumberRounded();
        digitsBehindTheFirst();
        generalLikeFOrLikeE();
        generalPrecisionZeroIsOne();
        zerosAtTheEndGo();
        withSharpTheyStay();
        capitalE();
        ofZero();
        exactlyAlsoWhereItWouldBeBeyond();
        howManyCharacters();
        theLineIsEmptyThen();
        noNumberOrNoSpec();
        nothingElseChanges();
        Bench.end("EdgesOfBodyTest");
    }

    private static void format(String number, String spec, String want) {
        Bench.dueFormatted(number, spec, want);
    }

    private static void digitsOfEachBase() {
        format("0", "d", "0");
        format("0", "b", "0");
        format("0", "x", "0");
        format("0", "X", "0");
        format("0", "#d", "0");
        format("0", "#b", "0b0");
        format("0", "#x", "0x0");
        format("0", "#X", "0X0");
        format("-10", "d", "-10");
        format("-10", "#d", "-10");
        format("-10", "b", "-1010");
        format("-10", "#b", "-0b1010");
        format("0xabcdef", "x", "abcdef");
        format("0xabcdef", "X", "ABCDEF");
        format("0xabcdef", "#x", "0xabcdef");
        format("0xabcdef", "#X", "0XABCDEF");
        format("0x9a", "x", "9a");
        format("15", "x", "f");
        format("16", "x", "10");
        format(MOST, "d", MOST);
        format(MOST, "x", "f".repeat(30));
        format("-" + MOST, "#X", "-0X" + "F".repeat(30));
        format(MOST, "b", "1".repeat(120));
        format("-" + MOST, "#_b", "-0b" + "1111_".repeat(29) + "1111");
        format("1073741824", "b", "1" + "0".repeat(30));
    }

    private static void roundedToPlaces() {
        format("1/2", ".0f", "0");
        format("3/2", ".0f", "2");
        format("5/2", ".0f", "2");
        format("-5/2", ".0f", "-2");
        format("5000001/10000000", ".0f", "1");
        format("25/100", ".1f", "0.2");
        format("35/100", ".1f", "0.4");
        format("0.25", ".1f", "0.2");
        format("0.35", ".1f", "0.3");
        format("0.75", ".1f", "0.8");
        format("1/3", ".4f", "0.3333");
        format("2/3", ".4f", "0.6667");
        format("99/100", ".1f", "1.0");
        format("9999/1000", ".2f", "10.00");
        format("1/20", ".1f", "0.0");
        format("15/100", ".1f", "0.2");
        format("0.1", ".20f", "0.10000000000000000555");
        format("12", ".3f", "12.000");
        format("1/100000000000000000000", ".20f", "0.00000000000000000001");
        format("1/200000000000000000000", ".20f", "0.00000000000000000000");
        format("3/200000000000000000000", ".20f", "0.00000000000000000002");
        format("0x1p-100", ".20f", "0.00000000000000000000");
        format("0x1.fffffffffffffp99", ".0f", "1267650600228229260759214850048");
    }

    private static void sixPlacesWithoutAPrecision() {
        format("1/3", "f", "0.333333");
        format("2/3", "f", "0.666667");
        format("7", "f", "7.000000");
        format("1/3", "%", "33.333333%");
        format("7", "%", "700.000000%");
        format("1/3", "e", "3.333333e-01");
        format("7", "E", "7.000000E+00");
        format("1/3", "g", "0.333333");
        format("1234567", "g", "1.23457e+06");
        format("1/2000000", "f", "0.000000");
        format("3/2000000", "f", "0.000002");
    }

    private static void aPointIfThereArePlacesOrSharp() {
        format("7", ".0f", "7");
        format("7", "#.0f", "7.");
        format("7", ".1f", "7.0");
        format("7", "#.1f", "7.0");
        format("7", ".0%", "700%");
        format("7", "#.0%", "700.%");
        format("7", ".0e", "7e+00");
        format("7", "#.0e", "7.e+00");
        format("7", "#.1e", "7.0e+00");
        format("1234", "#,.0f", "1,234.");
    }

    private static void ofAHundredTimesTheNumber() {
        format("1", ".0%", "100%");
        format("-1", ".0%", "-100%");
        format("1/200", ".0%", "0%");
        format("3/200", ".0%", "2%");
        format("5/200", ".0%", "2%");
        format("1/3", ".2%", "33.33%");
        format("0.285", ".0%", "28%");
        format("0.145", ".0%", "14%");
        format("0.29", ".20%", "28.99999999999999800160%");
        format("1/20000", ".2%", "0.00%");
        format("3/20000", ".2%", "0.02%");
        format("12345/100", ",.0%", "12,345%");
        format("-1/3", "012.3%", "-000033.333%");
    }

    private static void theExponentOfTheNumberRounded() {
        format("9", ".0e", "9e+00");
        format("10", ".0e", "1e+01");
        format("95", ".0e", "1e+02");
        format("85", ".0e", "8e+01");
        format("949", ".1e", "9.5e+02");
        format("9949", ".1e", "9.9e+03");
        format("9950", ".1e", "1.0e+04");
        format("9850", ".1e", "9.8e+03");
        format("99", ".1e", "9.9e+01");
        format("999", ".1e", "1.0e+03");
        format("9999995/10000000", ".5e", "1.00000e+00");
        format("9999994/10000000", ".5e", "9.99999e-01");
        format("1/10", ".3e", "1.000e-01");
        format("0.1", ".3e", "1.000e-01");
        format("0.1", ".17e", "1.00000000000000006e-01");
        format("0.3", ".20e", "2.99999999999999988898e-01");
        format("1/1000", "e", "1.000000e-03");
        format("999999/1000000000", ".3e", "1.000e-03");
        format("-1/3", ".2e", "-3.33e-01");
        format("1e-30", ".0e", "1e-30");
        format("0x1p-100", "e", "7.888609e-31");
        format("0x1.fffffffffffffp99", "e", "1.267651e+30");
        format("1/1000000000", ".0e", "1e-09");
        format("1/10000000000", ".0e", "1e-10");
        format("9999999999", ".3e", "1.000e+10");
        format("999999999", ".8e", "9.99999999e+08");
        format("999999999", ".7e", "1.0000000e+09");
    }

    private static void digitsBehindTheFirst() {
        format("12345", ".4e", "1.2345e+04");
        format("12345", ".3e", "1.234e+04");
        format("12355", ".3e", "1.236e+04");
        format("123451/10", ".3e", "1.235e+04");
        format("12345", ".20e", "1.23450000000000000000e+04");
        format("25", ".0e", "2e+01");
        format("35", ".0e", "4e+01");
        format("25.000001", ".0e", "3e+01");
        format("1", "e", "1.000000e+00");
    }

    private static void generalLikeFOrLikeE() {
        format("0.0001", "g", "0.0001");
        format("1/10000", "g", "0.0001");
        format("0.00001", "g", "1e-05");
        format("1/100000", "g", "1e-05");
        format("12345/100000000", "g", "0.00012345");
        format("99999/1000000000", "g", "9.9999e-05");
        format("99999/1000000000", ".4g", "0.0001");
        format("999999", "g", "999999");
        format("1000000", "g", "1e+06");
        format("9999994/10", "g", "999999");
        format("9999995/10", "g", "1e+06");
        format("999999.5", "g", "1e+06");
        format("99", ".2g", "99");
        format("100", ".2g", "1e+02");
        format("99.5", ".2g", "1e+02");
        format("98.5", ".2g", "98");
        format("97.5", ".2g", "98");
        format("9", ".1g", "9");
        format("10", ".1g", "1e+01");
        format("9.5", ".1g", "1e+01");
        format("8.5", ".1g", "8");
        format("12345678901234567890", ".20g", "12345678901234567890");
        format("100000000000000000000", ".20g", "1e+20");
        format("99999999999999999999", ".20g", "99999999999999999999");
        format("999999999999999999995/10", ".20g", "1e+20");
        format("123456789/1000", ".5g", "1.2346e+05");
        format("123456789/1000", ".6g", "123457");
        format("123456789/1000", ".7g", "123456.8");
        format("-1/3", ".1g", "-0.3");
    }

    private static void generalPrecisionZeroIsOne() {
        String[] numbers = {"0", "7", "25", "35", "1/3", "0.00012", "0.000012", "9.5", "-1234567"};
        for (String n : numbers) {
            Bench t = new Bench().with(0, n);
            String one = t.formatted(0, ".1g");
            format(n, ".0g", one);
            format(n, ".00g", one);
            format(n, "#.0G", t.formatted(0, "#.1G"));
        }
        format("7/2", ".0g", "4");
        format("25", ".0g", "2e+01");
        format("0.5", ".0", "0.5");
    }

    private static void zerosAtTheEndGo() {
        format("1/2", "g", "0.5");
        format("100", "g", "100");
        format("100.0", "g", "100");
        format("1500", ".3g", "1.5e+03");
        format("1000", ".3g", "1e+03");
        format("1020", ".3g", "1.02e+03");
        format("0.10", ".5g", "0.1");
        format("10", ".5g", "10");
        format("120", ".2g", "1.2e+02");
        format("100.5", ".5g", "100.5");
        format("100.04", ".4g", "100");
        format("1000000", "g", "1e+06");
        format("1200000", "g", "1.2e+06");
        format("0.00012", "g", "0.00012");
        format("0.000012", "g", "1.2e-05");
        format("100", ".3g", "100");
        format("1000000", ",.7g", "1,000,000");
    }

    private static void withSharpTheyStay() {
        format("1/2", "#g", "0.500000");
        format("100", "#g", "100.000");
        format("123456", "#g", "123456.");
        format("1234567", "#g", "1.23457e+06");
        format("1000000", "#g", "1.00000e+06");
        format("7", "#.1g", "7.");
        format("10", "#.1g", "1.e+01");
        format("10", "#.2g", "10.");
        format("0.00001", "#.3g", "1.00e-05");
        format("0.0001", "#.3g", "0.000100");
        format("0", "#g", "0.00000");
        format("0", "#.1g", "0.");
        format("99.5", "#.2g", "1.0e+02");
    }

    private static void capitalE() {
        format("1234567", "E", "1.234567E+06");
        format("1234567", "G", "1.23457E+06");
        format("123456", "G", "123456");
        format("1/3000000", ".2E", "3.33E-07");
        format("0.00001", "#.2G", "1.0E-05");
        format("0", "E", "0.000000E+00");
    }

    private static void ofZero() {
        String[] zeros = {"0", "0/5", "0.0"};
        for (String zero : zeros) {
            format(zero, "f", "0.000000");
            format(zero, ".0f", "0");
            format(zero, "#.0f", "0.");
            format(zero, ".0%", "0%");
            format(zero, "%", "0.000000%");
            format(zero, "e", "0.000000e+00");
            format(zero, ".0e", "0e+00");
            format(zero, "#.0e", "0.e+00");
            format(zero, "g", "0");
            format(zero, ".1g", "0");
            format(zero, ".20g", "0");
            format(zero, "#.3g", "0.00");
            format(zero, "G", "0");
            format(zero, "06.1f", "0000.0");
        }
    }

    private static void exactlyAlsoWhereItWouldBeBeyond() {
        format(MOST, "f", MOST + ".000000");
        format(MOST, ".20f", MOST + "." + "0".repeat(20));
        format(MOST, ".2%", MOST + "00.00%");
        format("-" + MOST + "/1", ".0%", "-" + MOST + "00%");
        format(MOST, ".20e", "1.32922799578491587290e+36");
        format(MOST, "e", "1.329228e+36");
        format(MOST, "g", "1.32923e+36");
        format(MOST, ".20G", "1.3292279957849158729E+36");
        format("1/" + MOST, "e", "7.523164e-37");
        format("1/" + MOST, ".20e", "7.52316384526264005100e-37");
        format("1/" + MOST, "f", "0.000000");
        format("1/" + MOST, ".3g", "7.52e-37");
        format("0x1.fffffffffffffp99", ".0%", "126765060022822926075921485004800%");
        format(MOST + "/2", ".1f", "664613997892457936451903530140172287.5");
        format(MOST + "/2", ".0f", "664613997892457936451903530140172288");
        format(MOST, ",.1f", "1,329,227,995,784,915,872,903,807,060,280,344,575.0");
        format(MOST, ",.20%", "132,922,799,578,491,587,290,380,706,028,034,457,500.00000000000000000000%");
        format("9007199254740993", ".0f", "9007199254740993");
        format("9007199254740993/1", ".20g", "9007199254740993");
    }

    private static void howManyCharacters() {
        Bench t = new Bench().with(0, "-" + MOST);
        t.line("#_b");
        Bench.due("the longest by b", Bench.outcome(() -> t.x.format(0)), 152);
        Bench.due("its last letter", t.x.letter(151), (int) '1');
        Bench.due("behind it", t.x.letter(152), -1);
        t.line(",.20%");
        Bench.due("the longest by %", Bench.outcome(() -> t.x.format(0)), 74);
        t.line("40");
        Bench.due("of a WIDTH", Bench.outcome(() -> t.x.format(0)), 40);
        Bench.due("behind it", t.x.letter(40), -1);
    }

    private static void theLineIsEmptyThen() {
        Bench t = new Bench().with(0, "7").with(1, "1/2");
        String[] specs = {"", "05", "d", "zz", ".2d", "00", "41", "d".repeat(40)};
        for (String spec : specs) {
            int[] registers = {0, 1, 4, 8, -1};
            for (int r : registers) {
                t.formatted(r, spec);
                Bench.due("format by the empty line after '" + spec + "'", Bench.outcome(() -> t.x.format(0)), 1);
                Bench.due("the sheet then", t.x.letter(0), (int) '7');
            }
        }
    }

    private static void noNumberOrNoSpec() {
        int[] none = {4, -1, 8, 9, Integer.MIN_VALUE, Integer.MAX_VALUE};
        for (int r : none) {
            Witness.refusedWithLine("format(" + r + ")", "", x -> x.format(r), IAE);
            Witness.refusedWithLine("format(" + r + ")", "g", x -> x.format(r), IAE);
            Witness.refusedWithLine("format(" + r + ")", "zz", x -> x.format(r), IAE);
        }
        for (int r = 0; r < 8; r++) {
            int a = r;
            Witness.refusedWithLine("format(" + r + ")", "zz", x -> x.format(a), IAE);
            Witness.refusedWithLine("format(" + r + ")", "41", x -> x.format(a), IAE);
            Witness.refusedWithLine("format(" + r + ")", ".1d", x -> x.format(a), IAE);
        }
        Witness.refusedWithLine("format(1)", "d", x -> x.format(1), IAE);
        Witness.refusedWithLine("format(2)", "x", x -> x.format(2), IAE);
        Witness.refusedWithLine("format(0)", ".1", x -> x.format(0), IAE);
        Witness.refusedWithLine("format(0)", ",x", x -> x.format(0), IAE);
    }

    private static void nothingElseChanges() {
        String[] specs = {"", "g", ".20e", "+%"};
        for (String spec : specs) {
            for (int r = 0; r < 8; r++) {
                if (r != 4) {
                    Witness w = new Witness(spec);
                    int a = r;
                    Bench.due("format throws nothing", Bench.outcome(() -> w.t.x.format(a)).startsWith("t"), false);
                    w.dueSame("format(" + r + ") by '" + spec + "'", -1, "", w.t.sheet());
                }
            }
        }
    }
}
