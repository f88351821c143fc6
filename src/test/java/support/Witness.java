import java.util.function.ToLongFunction;

/**
 * An object with numbers of each kind, a sheet and a line, by which a call shows what it leaves as it
 * was. Register 4 has no number.
 */
final class Witness {
    private static final String[] NUMBERS = {
        "6", "-7/2", "2.5", "0", "", Bench.MOST, "0.0", "1/" + Bench.MOST
    };
    private static final String SHEET = "-7/2";

    final Bench t = new Bench();
    private final String[] before = new String[NUMBERS.length];

    /** The line is this text. */
    Witness(String line) {
        for (int r = 0; r < NUMBERS.length; r++) {
            if (!NUMBERS[r].isEmpty()) {
                t.with(r, NUMBERS[r]);
            }
        }
        Bench.due("the sheet at first", t.shown(1), SHEET);
        t.line(line);
        for (int r = 0; r < NUMBERS.length; r++) {
            before[r] = look(r);
        }
    }

    /** All that can be seen of a register without the sheet. */
    private String look(int r) {
        NumberTower x = t.x;
        return x.kind(r) + " " + Double.toHexString(x.value(r)) + " " + x.hash(r) + " " + x.part(r, false, 0)
                + " " + x.part(r, false, 1) + " " + x.part(r, true, 0) + " " + x.part(r, true, 1);
    }

    /** A call throws this and changes nothing. */
    static void refused(String call, ToLongFunction<NumberTower> made, String want) {
        Witness w = new Witness("12");
        Bench.due(call, Bench.outcome(() -> made.applyAsLong(w.t.x)), want);
        w.dueSame(call, -1, "12", SHEET);
    }

    /** A call that takes the line throws this and changes nothing else. */
    static void refusedWithLine(String call, String line, ToLongFunction<NumberTower> made, String want) {
        Witness w = new Witness(line);
        Bench.due(call + " with '" + line + "'", Bench.outcome(() -> made.applyAsLong(w.t.x)), want);
        w.dueSame(call + " with '" + line + "'", -1, "", SHEET);
    }

    /** A call answers this and changes one register at most (-1: none). */
    static void answered(String call, ToLongFunction<NumberTower> made, long want, int changed) {
        Witness w = new Witness("12");
        Bench.due(call, Bench.outcome(() -> made.applyAsLong(w.t.x)), want);
        w.dueSame(call, changed, "12", SHEET);
    }

    /** Checks the sheet, the registers but for one, and the line, which has digits alone. */
    void dueSame(String call, int changed, String line, String sheet) {
        Bench.due("the sheet after " + call, t.sheet(), sheet);
        for (int r = 0; r < NUMBERS.length; r++) {
            if (r != changed) {
                Bench.due("register " + r + " after " + call, look(r), before[r]);
            }
        }
        Bench.due("write('9') after " + call, t.x.write('9'), true);
        Bench.due("the line after " + call, Bench.outcome(() -> t.x.read(4)), 0);
        Bench.due("the line after " + call, t.held(4), "0 " + line + "9");
    }
}
