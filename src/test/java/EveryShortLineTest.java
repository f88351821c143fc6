import java.util.function.LongSupplier;

/** Every line of a few characters as a number (READING) and as a SPEC, each compared with the model's answer. */
public final class EveryShortLineTest {
    /** What one line may need of an object's 512 calls: to be written, used, and looked at. */
    private static final int CALLS_OF_A_LINE = 60;
    private static final String[] NUMBERS = {"1234567", "-7/3", "0.0"};

    private NumberTower x = new NumberTower();
    private Model model = new Model();
    private int callsLeft;

    public static void main(String[] args) {
        new EveryShortLineTest().readAll("019_./eE+-xbafg ", 4);
        new EveryShortLineTest().readAll("0_./e-", 6);
        new EveryShortLineTest().readAll("1_./e+", 6);
        for (int r = 0; r < NUMBERS.length; r++) {
            new EveryShortLineTest().formatAll("<>^=+- #04,_.2bdxXeEfgG%c", 3, r);
            new EveryShortLineTest().formatAll("<=+#05,_.1dxfg%", 4, r);
            new EveryShortLineTest().formatAll("*>04.2f", 5, r);
        }
        Bench.end("EveryShortLineTest");
    }

    private void freshIfNeeded() {
        if (callsLeft >= CALLS_OF_A_LINE) {
            callsLeft -= CALLS_OF_A_LINE;
            return;
        }
        callsLeft = 512 - CALLS_OF_A_LINE;
        x = new NumberTower();
        model = new Model();
        for (int r = 0; r < NUMBERS.length; r++) {
            write(NUMBERS[r]);
            read(r, NUMBERS[r]);
        }
    }

    private void write(String line) {
        for (int i = 0; i < line.length(); i += 4) {
            int w = Bench.packed(line.substring(i, Math.min(line.length(), i + 4)));
            both("write of " + line, () -> x.write(w) ? 1 : 0, () -> model.write(w));
        }
    }

    private String both(String call, LongSupplier real, LongSupplier want) {
        String due = Bench.outcome(want);
        Bench.due(call, Bench.outcome(real), due);
        return due;
    }

    private void read(int r, String line) {
        both("read of '" + line + "'", () -> x.read(r), () -> model.read(r));
        both("kind after '" + line + "'", () -> x.kind(r), () -> model.kind(r));
        both("hash after '" + line + "'", () -> x.hash(r), () -> model.hash(r));
    }

    private void format(int r, String line) {
        String length = both("format by '" + line + "'", () -> x.format(r), () -> model.format(r));
        if (!length.startsWith("throws.")) {
            for (int k = 0; k <= model.sheet.length(); k++) {
                int at = k;
                both("letter " + k + " by '" + line + "'", () -> x.letter(at), () -> model.letter(at));
            }
        }
    }

    private static int linesOf(String characters, int length) {
        int lines = 1;
        for (int i = 0; i < length; i++) {
            lines *= characters.length();
        }
        return lines;
    }

    /** The line with this number among those of its length. */
    private static String line(String characters, int length, int number) {
        StringBuilder s = new StringBuilder();
        int left = number;
        for (int i = 0; i < length; i++) {
            s.append(characters.charAt(left % characters.length()));
            left /= characters.length();
        }
        return s.toString();
    }

    private void readAll(String characters, int most) {
        for (int length = 0; length <= most; length++) {
            for (int i = linesOf(characters, length) - 1; i >= 0; i--) {
                String line = line(characters, length, i);
                freshIfNeeded();
                write(line);
                read(7, line);
            }
        }
    }

    private void formatAll(String characters, int most, int r) {
        for (int length = 0; length <= most; length++) {
            for (int i = linesOf(characters, length) - 1; i >= 0; i--) {
                String line = line(characters, length, i);
                freshIfNeeded();
                write(line);
                format(r, line);
            }
        }
    }
}
