/** Promises 14 (show) and 16 (letter), SHOWING and THE SHEET: each sentence at its bounds. */
public final class EdgesOfShowTest {
    private static final String MOST = Bench.MOST;
    private static final String IAE = Bench.IAE;

    public static void main(String[] args) {
        minusIfBelowZero();
        theDigitsOfAWhole();
        theLowerPartIfItIsNotOne();
        zeroPointZero();
        asFewDigitsAsCanBe();
        theNearestOfThose();
        ofTwoTheEvenOne();
        atPowersOfTwo();
        plainlyFromMinus4To15();
        elseWithAnExponent();
        howManyCharacters();
        lettersOfTheSheet();
        theSheetIsWhatWasShownLatest();
        noNumber();
        Bench.end("EdgesOfShowTest");
    }

    private static void show(String number, String want) {
        Bench.dueShown(number, want);
    }

    private static void minusIfBelowZero() {
        show("-1", "-1");
        show("-1/2", "-1/2");
        show("-0.5", "-0.5");
        show("-1e20", "-1e+20");
        show("-0", "0");
        show("-0/3", "0");
        show("-0.0", "0.0");
        show("+1", "1");
        show("-" + MOST, "-" + MOST);
    }

    private static void theDigitsOfAWhole() {
        show("0", "0");
        show("007", "7");
        show("10", "10");
        show("9", "9");
        show("1000000000", "1000000000");
        show("999999999", "999999999");
        show("1073741824", "1073741824");
        show("1000000000000000000000", "1000000000000000000000");
        show(MOST, MOST);
        show("0xff", "255");
    }

    private static void theLowerPartIfItIsNotOne() {
        show("0/5", "0");
        show("5/1", "5");
        show("-6/3", "-2");
        show("6/4", "3/2");
        show("1/2", "1/2");
        show("1/" + MOST, "1/" + MOST);
        show(MOST + "/1", MOST);
        show("-" + MOST + "/2", "-" + MOST + "/2");
        show("1/10", "1/10");
    }

    private static void zeroPointZero() {
        show("0.0", "0.0");
        show("0e5", "0.0");
        Bench t = new Bench().with(0, "-5.0").with(1, "5");
        t.x.combine(0, 0, 1, 2);
        Bench.due("-5.0 + 5", t.shown(2), "0.0");
    }

    private static void asFewDigitsAsCanBe() {
        show("0.1", "0.1");
        show("0.3", "0.3");
        show("0x1.3333333333334p-2", "0.30000000000000004");
        show("0x1.5555555555555p-2", "0.3333333333333333");
        show("0x1.5555555555555p-1", "0.6666666666666666");
        show("0x1.fffffffffffffp-1", "0.9999999999999999");
        show("0x1.0000000000001p0", "1.0000000000000002");
        show("1e22", "1e+22");
        show("1e23", "1e+23");
        show("0x1.52d02c7e14af7p76", "1.0000000000000001e+23");
        show("0x1.fffffffffffffp99", "1.2676506002282293e+30");
        show("0x1p-100", "7.888609052210118e-31");
        show("0x1.0000000000001p-100", "7.88860905221012e-31");
        show("123456789.125", "123456789.125");
        show("5e-30", "5e-30");
        show("1.2e30", "1.2e+30");
        show("4503599627370497.5", "4503599627370498.0");
        show("0x1p53", "9007199254740992.0");
    }

    private static void theNearestOfThose() {
        // more than one text of as few digits has it as its NEAREST
        show("0x1p89", "6.189700196426902e+26");
        show("0x1p90", "1.2379400392853803e+27");
        show("0x1p83", "9.671406556917033e+24");
        show("0x1.0000000000001p83", "9.671406556917036e+24");
        show("0x1p-44", "5.684341886080802e-14");
        show("0x1p-24", "5.960464477539063e-08");
        show("18014398509482008.0", "1.801439850948201e+16");
        show("18014398509481992.0", "1.801439850948199e+16");
    }

    private static void ofTwoTheEvenOne() {
        show("1125899906842624.25", "1125899906842624.2");
        show("1125899906842624.75", "1125899906842624.8");
        show("1125899906842625.25", "1125899906842625.2");
        show("-1125899906842625.75", "-1125899906842625.8");
        show("2251799813685247.75", "2251799813685247.8");
        show("0x1.0000000000001p50", "1125899906842624.2");
        show("0x1.fffffffffffffp50", "2251799813685247.8");
    }

    /** What lies below a power of two is nearer than what lies above; the model looks at all texts. */
    private static void atPowersOfTwo() {
        for (int k = -100; k <= 99; k++) {
            double power = 1.0;
            for (int i = 0; i < Math.abs(k); i++) {
                power = k < 0 ? power / 2 : power * 2;
            }
            double[] some = {power, Math.nextUp(power), Math.nextDown(power), -power};
            for (double v : some) {
                NumberTower x = new NumberTower();
                Model model = new Model();
                if (x.real(0, v)) {
                    model.real(0, v);
                    model.show(0);
                    Bench.due("show of " + v, x.show(0), model.sheet.length());
                    for (int i = 0; i < model.sheet.length(); i++) {
                        Bench.due("letter " + i + " of " + v, x.letter(i), (int) model.sheet.charAt(i));
                    }
                }
            }
        }
    }

    private static void plainlyFromMinus4To15() {
        show("0.0001", "0.0001");
        show("0.00012345", "0.00012345");
        show("0x1.a36e2eb1c432ep-14", "0.00010000000000000002");
        show("0.001", "0.001");
        show("0.01", "0.01");
        show("0.125", "0.125");
        show("1.0", "1.0");
        show("9.5", "9.5");
        show("10.0", "10.0");
        show("10.5", "10.5");
        show("100000.0", "100000.0");
        show("1e14", "100000000000000.0");
        show("123456789012345.6", "123456789012345.6");
        show("1e15", "1000000000000000.0");
        show("1.5e15", "1500000000000000.0");
        show("1234567890123456.0", "1234567890123456.0");
        show("9999999999999998.0", "9999999999999998.0");
    }

    private static void elseWithAnExponent() {
        show("0.00001", "1e-05");
        show("0.00009", "9e-05");
        show("0x1.a36e2eb1c432cp-14", "9.999999999999999e-05");
        show("0.000012", "1.2e-05");
        show("1e-9", "1e-09");
        show("1e-10", "1e-10");
        show("1.5e-10", "1.5e-10");
        show("1e16", "1e+16");
        show("1.5e16", "1.5e+16");
        show("12345678901234568.", "1.2345678901234568e+16");
        show("1e17", "1e+17");
        show("-1e16", "-1e+16");
        show("1e30", "1e+30");
        show("1e-30", "1e-30");
        show("-1.25e-30", "-1.25e-30");
    }

    private static void howManyCharacters() {
        String[] numbers = {"0", "-7", "3/4", "0.0", "-1e20", MOST, "-1/" + MOST};
        int[] want = {1, 2, 3, 3, 6, 37, 40};
        for (int i = 0; i < want.length; i++) {
            Bench t = new Bench().with(6, numbers[i]);
            Bench.due("show of " + numbers[i], Bench.outcome(() -> t.x.show(6)), want[i]);
        }
        // the longest: both parts of a RATIO are as long as can be
        Bench t = new Bench().with(0, "-" + MOST).with(1, "1329227995784915872903807060280344574/1");
        t.x.combine(3, 0, 1, 2);
        Bench.due("show of the longest", t.shown(2), "-" + MOST + "/1329227995784915872903807060280344574");
        Bench.due("letter(75)", t.x.letter(75), (int) '4');
        Bench.due("letter(76)", t.x.letter(76), -1);
    }

    private static void lettersOfTheSheet() {
        int[] never = {-1, -2, 1000, Integer.MIN_VALUE, Integer.MAX_VALUE};
        NumberTower fresh = new NumberTower();
        for (int k = -3; k < 50; k++) {
            Bench.due("letter(" + k + ") of nothing", fresh.letter(k), NumberTower.NONE);
        }
        Bench t = new Bench().with(0, "-3/4");
        Bench.due("show", t.x.show(0), 4);
        Bench.due("the letters", "" + (char) t.x.letter(0) + (char) t.x.letter(1) + (char) t.x.letter(2)
                + (char) t.x.letter(3), "-3/4");
        Bench.due("letter(4)", t.x.letter(4), NumberTower.NONE);
        for (int k : never) {
            Bench.due("letter(" + k + ")", t.x.letter(k), NumberTower.NONE);
        }
        t.with(1, "7");
        Bench.due("a shorter sheet", t.x.show(1), 1);
        Bench.due("its letters", t.x.letter(0) + " " + t.x.letter(1) + " " + t.x.letter(3), "55 -1 -1");
    }

    private static void theSheetIsWhatWasShownLatest() {
        Bench t = new Bench().with(0, "12").with(1, "3.5");
        Bench.due("shown", t.shown(0), "12");
        Bench.due("formatted", t.formatted(1, ".2f"), "3.50");
        Bench.due("shown again", t.shown(1), "3.5");
        Bench.due("letters change nothing", t.sheet() + t.sheet(), "3.53.5");
        t.x.whole(1, 9);
        t.x.combine(0, 0, 0, 0);
        t.line("5");
        t.x.read(2);
        t.x.wipe();
        Bench.due("the sheet is no register", t.sheet(), "3.5");
        Bench.due("shown then", t.shown(1), "9");
        for (int r = 0; r < 8; r++) {
            if (r != 4) {
                Witness w = new Witness("12");
                String want = w.t.shown(r);
                w.dueSame("show(" + r + ")", -1, "12", want);
            }
        }
    }

    private static void noNumber() {
        int[] none = {4, -1, 8, 9, Integer.MIN_VALUE, Integer.MAX_VALUE};
        for (int r : none) {
            Witness.refused("show(" + r + ")", x -> x.show(r), IAE);
            Bench.due("show(" + r + ")", Bench.outcome(() -> new NumberTower().show(r)), IAE);
        }
    }
}
