import java.util.function.LongSupplier;

/** A tower with texts in and out, and the count of what was not as due. */
final class Bench {
    static final String IAE = "throws.IllegalArgumentException";
    static final String AE = "throws.ArithmeticException";
    static final String ISE = "throws.IllegalStateException";
    /** The greatest amount of a WHOLE, 2^120 - 1, and the first that is BEYOND. */
    static final String MOST = "1329227995784915872903807060280344575";
    static final String PAST = "1329227995784915872903807060280344576";

    private static int checked = 0;
    private static int wrong = 0;

    final NumberTower x = new NumberTower();

    /** Prints a call whose answer is not the one that is due. */
    static void due(String call, Object got, Object want) {
        checked++;
        if (!String.valueOf(got).equals(String.valueOf(want))) {
            wrong++;
            System.out.println(call + " answered " + got + ", due is " + want);
        }
    }

    /** To be called last in a test's main. */
    static void end(String test) {
        System.out.println(test + ": " + checked + " checks, " + wrong + " wrong");
        if (wrong != 0 || checked == 0) {
            System.exit(1);
        }
    }

    /** What a call answers, or which exception it throws. */
    static String outcome(LongSupplier call) {
        try {
            return Long.toString(call.getAsLong());
        } catch (RuntimeException e) {
            return "throws." + e.getClass().getSimpleName();
        }
    }

    /** The int by which write appends these characters, four at most. */
    static int packed(String text) {
        int w = 0;
        for (int i = 0; i < text.length(); i++) {
            w = w << 8 | text.charAt(i);
        }
        return w;
    }

    /** The line becomes this text. */
    void line(String text) {
        x.wipe();
        for (int i = 0; i < text.length(); i += 4) {
            String piece = text.substring(i, Math.min(text.length(), i + 4));
            if (!x.write(packed(piece))) {
                due("write of " + text, "false", "true");
            }
        }
    }

    /** Reads a text into a register: the kind or the exception. */
    String read(int register, String text) {
        line(text);
        return outcome(() -> x.read(register));
    }

    /** The sheet's characters. */
    String sheet() {
        StringBuilder s = new StringBuilder();
        for (int k = 0; x.letter(k) != NumberTower.NONE; k++) {
            s.append((char) x.letter(k));
        }
        return s.toString();
    }

    /** What show writes for a register, or the exception. */
    String shown(int register) {
        String answer = outcome(() -> x.show(register));
        return sheetFor(answer);
    }

    /** What format writes for a register by a SPEC, or the exception. */
    String formatted(int register, String spec) {
        line(spec);
        String answer = outcome(() -> x.format(register));
        return sheetFor(answer);
    }

    private String sheetFor(String answer) {
        if (answer.startsWith("throws.")) {
            return answer;
        }
        String text = sheet();
        due("length of '" + text + "'", answer, text.length());
        return text;
    }

    /** A register's kind and worth, as one text: "0 -17", "1 7/2", "2 0.1", or "none". */
    String held(int register) {
        int kind = x.kind(register);
        return kind == NumberTower.NONE ? "none" : kind + " " + shown(register);
    }

    /** Reads a number that is one; a REAL may also be given as Java writes it in hex, "0x1.8p-3". */
    Bench with(int register, String text) {
        if (isJavaHex(text)) {
            due("real of " + text, x.real(register, Double.parseDouble(text)), true);
            return this;
        }
        String kind = read(register, text);
        if (kind.startsWith("throws.")) {
            due("read of " + text, kind, "a kind");
        }
        return this;
    }

    private static boolean isJavaHex(String text) {
        return text.indexOf('p') >= 0;
    }

    /** Checks a register's kind and worth; of a REAL also "2 0x1.8p-3", bit by bit. */
    void dueHeld(String call, int register, String want) {
        if (want.startsWith("2 ") && isJavaHex(want)) {
            String exactly = Double.toHexString(Double.parseDouble(want.substring(2)));
            due(call, x.kind(register) + " " + Double.toHexString(x.value(register)), "2 " + exactly);
        } else {
            due(call, held(register), want);
        }
    }

    /** Checks a call that puts a number in register 3: its exception, or its kind and what it puts there. */
    void duePut(String call, LongSupplier put, String want) {
        String answer = outcome(put);
        if (answer.startsWith("throws.")) {
            due(call, answer, want);
            due(call + ": register 3", held(3), "none");
        } else {
            due(call + ": the kind", answer, x.kind(3));
            dueHeld(call, 3, want);
        }
    }

    /** Checks what comes of an operation on two numbers. */
    static void dueCombined(int op, String a, String b, String want) {
        Bench t = new Bench().with(1, a).with(2, b);
        t.duePut(a + " op " + op + " " + b, () -> t.x.combine(op, 1, 2, 3), want);
    }

    /** Checks what comes of reading a text. */
    static void dueRead(String text, String want) {
        Bench t = new Bench();
        t.line(text);
        t.duePut("read of '" + text + "'", () -> t.x.read(3), want);
        due("the line is empty after '" + text + "'", outcome(() -> t.x.read(4)), IAE);
    }

    /** Checks what comes of a turn. */
    static void dueTurned(int what, String a, String want) {
        Bench t = new Bench().with(1, a);
        t.duePut("turn " + what + " of " + a, () -> t.x.turn(what, 1, 3), want);
    }

    /** Checks what comes of rounding. */
    static void dueRounded(String a, int n, String want) {
        Bench t = new Bench().with(1, a);
        t.duePut(a + " rounded to " + n, () -> t.x.round(1, n, 3), want);
    }

    /** Checks the sum of numbers in the registers from 4 on. */
    static void dueSum(String want, String... numbers) {
        Bench t = new Bench();
        for (int i = 0; i < numbers.length; i++) {
            t.with(4 + i, numbers[i]);
        }
        t.duePut("sum of " + String.join(", ", numbers), () -> t.x.sum(240, 3), want);
    }

    /** Checks what show writes of a number. */
    static void dueShown(String number, String want) {
        due("show of " + number, new Bench().with(0, number).shown(0), want);
    }

    /** Checks what format writes of a number. */
    static void dueFormatted(String number, String spec, String want) {
        due(number + " by '" + spec + "'", new Bench().with(0, number).formatted(0, spec), want);
    }
}
