import java.util.function.LongSupplier;

/** A tower with texts in and out, and the count of what was not as due. */
final class Bench {
    static final String IAE = "throws.IllegalArgumentException";
    static final String AE = "throws.ArithmeticException";
    static final String ISE = "throws.IllegalStateException";

    private static int checked = 0;
    private static int wrong = 0;

    final NumberTower x = new NumberTower();

    /** Prints a call whose answer is not the one that is due. */
    static void due(String call, Object got, Object want) {
        checked++;
        if (!String.valueOf(got).equals(String.valueOf(want))) {
            wrong++;
            System.out.println(call + " answered " + got + ", due is " + want);
        }
    }

    /** To be called last in a test's main. */
    static void end(String test) {
        System.out.println(test + ": " + checked + " checks, " + wrong + " wrong");
        if (wrong != 0 || checked == 0) {
            System.exit(1);
        }
    }

    /** What a call answers, or which exception it throws. */
    static String outcome(LongSupplier call) {
        try {
            return Long.toString(call.getAsLong());
        } catch (RuntimeException e) {
            return "throws." + e.getClass().getSimpleName();
        }
    }

    /** The int by which write appends these characters, four at most. */
    static int packed(String text) {
        int w = 0;
        for (int i = 0; i < text.length(); i++) {
            w = w << 8 | text.charAt(i);
        }
        return w;
    }

    /** The line becomes this text. */
    void line(String text) {
        x.wipe();
        for (int i = 0; i < text.length(); i += 4) {
            String piece = text.substring(i, Math.min(text.length(), i + 4));
            if (!x.write(packed(piece))) {
                due("write of " + text, "false", "true");
            }
        }
    }

    /** Reads a text into a register: the kind or the exception. */
    String read(int register, String text) {
        line(text);
        return outcome(() -> x.read(register));
    }

    /** The sheet's characters. */
    String sheet() {
        StringBuilder s = new StringBuilder();
        for (int k = 0; x.letter(k) != NumberTower.NONE; k++) {
            s.append((char) x.letter(k));
        }
        return s.toString();
    }

    /** What show writes for a register, or the exception. */
    String shown(int register) {
        String answer = outcome(() -> x.show(register));
        return sheetFor(answer);
    }

    /** What format writes for a register by a SPEC, or the exception. */
    String formatted(int register, String spec) {
        line(spec);
        String answer = outcome(() -> x.format(register));
        return sheetFor(answer);
    }

    private String sheetFor(String answer) {
        if (answer.startsWith("throws.")) {
            return answer;
        }
        String text = sheet();
        due("length of '" + text + "'", answer, text.length());
        return text;
    }

    /** A register's kind and worth, as one text: "0 -17", "1 7/2", "2 0.1", or "none". */
    String held(int register) {
        int kind = x.kind(register);
        return kind == NumberTower.NONE ? "none" : kind + " " + shown(register);
    }

    /** Reads a number that is one. */
    Bench with(int register, String text) {
        String kind = read(register, text);
        if (kind.startsWith("throws.")) {
            due("read of " + text, kind, "a kind");
        }
        return this;
    }

    /** What comes of an operation on two numbers: the answered kind and the worth, or the exception. */
    static String combined(int op, String a, String b) {
        Bench t = new Bench().with(1, a).with(2, b);
        String answer = outcome(() -> t.x.combine(op, 1, 2, 3));
        if (answer.startsWith("throws.")) {
            due("register 3 after " + answer, t.held(3), "none");
            return answer;
        }
        due("kind after operation " + op, answer, t.x.kind(3));
        return t.held(3);
    }
}
