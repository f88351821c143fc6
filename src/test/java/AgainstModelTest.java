import java.util.function.LongSupplier;

/** All promises at once: long runs of calls, each compared with the model's answer. */
public final class AgainstModelTest {
    private static final int RUNS = 600;
    private static final int CALLS = 512;

    private final NumberTower x = new NumberTower();
    private final Model model = new Model();
    private final int run;
    private int calls;
    private long seed;

    private AgainstModelTest(int run) {
        this.run = run;
        seed = run * 0x9E3779B97F4A7C15L + 1;
    }

    public static void main(String[] args) {
        for (int run = 0; run < RUNS; run++) {
            new AgainstModelTest(run).go();
        }
        Bench.end("AgainstModelTest");
    }

    /** 0 .. below - 1, the same ones in each session. */
    private int any(int below) {
        seed = seed * 6364136223846793005L + 1442695040888963407L;
        return (int) ((seed >>> 33) % below);
    }

    private String one(String... texts) {
        return texts[any(texts.length)];
    }

    private int register() {
        return any(40) == 0 ? new int[] {-1, 8, Integer.MIN_VALUE, Integer.MAX_VALUE}[any(4)] : any(8);
    }

    /** No object is used for more calls than are promised. */
    private void both(String call, LongSupplier real, LongSupplier want) {
        if (calls == CALLS) {
            return;
        }
        calls++;
        Bench.due("run " + run + ", call " + calls + ": " + call, Bench.outcome(real), Bench.outcome(want));
    }

    private void go() {
        while (calls < CALLS) {
            int what = any(100);
            if (what < 30) {
                give(register());
            } else if (what < 60) {
                operate();
            } else if (what < 75) {
                show();
            } else {
                look();
            }
        }
    }

    private void line(String text) {
        String cut = text.substring(0, Math.min(40, text.length()));
        for (int i = 0; i < cut.length(); ) {
            int n = Math.min(1 + any(4), cut.length() - i);
            int w = Bench.packed(cut.substring(i, i + n));
            int shifted = n < 4 && any(2) == 0 ? w << 8 : w;
            both("write(" + shifted + ")", () -> x.write(shifted) ? 1 : 0, () -> model.write(shifted));
            i += n;
        }
    }

    private void give(int r) {
        int how = any(10);
        if (how < 6) {
            String text = mangled(number());
            line(text);
            both("read(" + r + ") of " + text, () -> x.read(r), () -> model.read(r));
        } else if (how < 8) {
            long v = any(3) == 0 ? (long) any(1 << 30) * any(1 << 30) * any(1 << 30) : any(250) - 125;
            both("whole(" + r + ", " + v + ")", () -> x.whole(r, v) ? 1 : 0, () -> model.whole(r, v));
        } else {
            double v = real();
            both("real(" + r + ", " + v + ")", () -> x.real(r, v) ? 1 : 0, () -> model.real(r, v));
        }
    }

    private double real() {
        int exponent = any(12) == 0 ? any(2048) : any(2) == 0 ? 923 + any(200) : 1003 + any(40);
        long bits = any(3) == 0 ? 0 : (long) any(1 << 30) << 22 | any(1 << 22);
        bits = any(6) == 0 ? (1L << 52) - 1 : bits;
        return Double.longBitsToDouble((long) any(2) << 63 | (long) exponent << 52 | bits);
    }

    private String digits(int most) {
        StringBuilder s = new StringBuilder();
        int n = 1 + any(most);
        int way = any(6);
        for (int i = 0; i < n; i++) {
            s.append(way == 0 ? '9' : way == 1 ? (i == 0 ? '1' : '0') : (char) ('0' + any(10)));
        }
        if (way == 2 && n > 1) {
            s.insert(1 + any(n - 1), '_');
        }
        return s.toString();
    }

    private String number() {
        String sign = one("", "", "-", "-", "+");
        switch (any(8)) {
            case 0: return sign + "0x" + one("1", "f", "7F", "ffffffff_fffffffff", "1000000000000000000000000000000");
            case 1: return sign + "0b" + one("1", "101", "1_1", "11111111111111111111");
            case 2: return sign + digits(37);
            case 3: return sign + digits(4) + "/" + digits(4);
            case 4: return sign + digits(18) + "/" + digits(19);
            case 5: return sign + one("1/", "5/", "3/") + one("2305843009213693951", "4611686018427387902", "0");
            case 6: return sign + digits(18) + "." + digits(18);
            default: return sign + one(digits(5), digits(9) + ".", "." + digits(9), "0.0") + one("e", "E")
                    + one("", "+", "-") + one(digits(1), digits(2), digits(3));
        }
    }

    /** Mostly the text itself; sometimes a character is put in or taken out. */
    private String mangled(String text) {
        int at = any(text.length() + 1);
        if (any(12) == 0) {
            return text.substring(0, at) + one("_", ".", "e", "-", "/", "x", " ", "0", "+") + text.substring(at);
        }
        if (any(20) == 0 && at < text.length()) {
            return text.substring(0, at) + text.substring(at + 1);
        }
        return text;
    }

    private void operate() {
        int a = register();
        int b = register();
        int c = register();
        int to = register();
        int op = any(14) - 1;
        int n = any(43) - 21;
        int set = any(9) == 0 ? any(600) - 200 : any(256);
        switch (any(9)) {
            case 0: both("power", () -> x.power(a, b, c, to), () -> model.power(a, b, c, to)); break;
            case 1: both("turn", () -> x.turn(op % 6, a, to), () -> model.turn(op % 6, a, to)); break;
            case 2: both("round", () -> x.round(a, n, to), () -> model.round(a, n, to)); break;
            case 3: both("sum", () -> x.sum(set, to), () -> model.sum(set, to)); break;
            default:
                both("combine " + op, () -> x.combine(op, a, b, to), () -> model.combine(op, a, b, to));
                break;
        }
        compareAll(to);
    }

    private String spec() {
        String s = one("", "", "", "*<", "0>", "_^", "==", "<", ">", "=", "^") + one("", "", "+", "-", " ")
                + one("", "", "#") + one("", "", "0") + one("", "", "1", "9", "15", "24", "40", "41", "7")
                + one("", "", ",", "_");
        String precision = any(2) == 0 ? "" : "." + one("0", "1", "2", "3", "02", "5", "10", "17", "20", "21");
        return s + precision + one("", "d", "b", "x", "X", "e", "E", "f", "f", "g", "g", "G", "%");
    }

    private void show() {
        int r = register();
        if (any(2) == 0) {
            both("show(" + r + ")", () -> x.show(r), () -> model.show(r));
        } else {
            String text = mangled(spec());
            line(text);
            both("format(" + r + ") by '" + text + "'", () -> x.format(r), () -> model.format(r));
        }
        for (int k = -1; k <= model.sheet.length(); k++) {
            int at = k;
            both("letter(" + at + ")", () -> x.letter(at), () -> model.letter(at));
        }
    }

    private void look() {
        int a = register();
        int b = register();
        int k = any(6) == 0 ? any(5) - 2 : any(2);
        switch (any(5)) {
            case 0: both("compare", () -> x.compare(a, b), () -> model.compare(a, b)); break;
            case 1: both("part", () -> x.part(a, true, k), () -> model.part(a, true, k)); break;
            case 2: both("letter", () -> x.letter(10 * k), () -> model.letter(10 * k)); break;
            case 3:
                if (any(4) == 0) {
                    both("wipe()", () -> wiped(x), () -> wiped(model));
                } else {
                    int w = any(1 << 30) << 2 | any(4);
                    both("write(" + w + ")", () -> x.write(w) ? 1 : 0, () -> model.write(w));
                }
                break;
            default: compareAll(a); break;
        }
    }

    private static long wiped(NumberTower x) {
        x.wipe();
        return 0;
    }

    private static long wiped(Model model) {
        model.wipe();
        return 0;
    }

    /** All that can be seen of a register. */
    private void compareAll(int r) {
        both("kind(" + r + ")", () -> x.kind(r), () -> model.kind(r));
        both("value(" + r + ")", () -> Double.doubleToLongBits(x.value(r)), () -> model.valueBits(r));
        both("hash(" + r + ")", () -> x.hash(r), () -> model.hash(r));
        for (int k = 0; k < 2; k++) {
            int part = k;
            both("part(" + r + ")", () -> x.part(r, false, part), () -> model.part(r, false, part));
            both("part below(" + r + ")", () -> x.part(r, true, part), () -> model.part(r, true, part));
        }
    }
}
