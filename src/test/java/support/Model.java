import java.math.BigInteger;
import java.util.regex.Matcher;
import java.util.regex.Pattern;

/** The document once more, plainly, on the Java library's integers and patterns. */
final class Model {
    private static final int WHOLE = 0;
    private static final int RATIO = 1;
    private static final int REAL = 2;
    private static final BigInteger HASH_MODULUS = BigInteger.ONE.shiftLeft(61).subtract(BigInteger.ONE);
    private static final String D = "[0-9](?:_?[0-9])*";
    private static final Pattern WHOLE_LINE = Pattern.compile(
            "([-+]?)(?:0x([0-9a-fA-F](?:_?[0-9a-fA-F])*)|0b([01](?:_?[01])*)|(" + D + "))");
    private static final Pattern RATIO_LINE = Pattern.compile("([-+]?)(" + D + ")/(" + D + ")");
    private static final Pattern REAL_LINE = Pattern.compile("([-+]?)(?:(" + D + ")\\.(" + D + ")?|\\.(" + D
            + ")|(" + D + ")(?=[eE]))(?:[eE]([-+]?[0-9]{1,3}))?");
    private static final Pattern SPEC = Pattern.compile(
            "([-+ ])?(#)?(0)?([1-9][0-9]?)?([,_])?(?:\\.([0-9]{1,2}))?([dbxXeEfgG%])?");

    private record Number(int kind, Fraction worth) {
    }

    private final Number[] registers = new Number[8];
    private String line = "";
    String sheet = "";

    private static void require(boolean fine) {
        if (!fine) {
            throw new IllegalArgumentException();
        }
    }

    private static Fraction nearest(Fraction v) {
        if (v.sign() == 0) {
            return v;
        }
        Fraction a = v.amount();
        int k = a.up().bitLength() - a.low().bitLength();
        if (Fraction.power(2, k).order(a) > 0) {
            k--;
        }
        Fraction unit = Fraction.power(2, k - 52);
        Fraction near = Fraction.of(a.by(unit).rounded(), BigInteger.ONE).times(unit);
        if (near.order(Fraction.power(2, -100)) < 0 || near.order(Fraction.power(2, 100)) >= 0) {
            throw new IllegalStateException();
        }
        return v.sign() < 0 ? near.negated() : near;
    }

    private static Number settled(int kind, Fraction v) {
        if (kind == REAL) {
            return new Number(REAL, nearest(v));
        }
        if (v.up().abs().bitLength() > 120 || v.low().bitLength() > 120) {
            throw new IllegalStateException();
        }
        return new Number(kind, v);
    }

    private static boolean isRegister(int r) {
        return r >= 0 && r < 8;
    }

    private Number at(int r) {
        return isRegister(r) ? registers[r] : null;
    }

    private Number number(int r) {
        require(at(r) != null);
        return at(r);
    }

    private long keep(int to, Number n) {
        registers[to] = n;
        return n.kind;
    }

    long write(int w) {
        StringBuilder more = new StringBuilder();
        for (int shift = 24; shift >= 0; shift -= 8) {
            int c = w >>> shift & 255;
            if (c != 0) {
                more.append((char) c);
            }
        }
        boolean fits = line.length() + more.length() <= 40;
        if (!fits || !more.chars().allMatch(c -> c >= 32 && c <= 126)) {
            return 0;
        }
        line += more;
        return 1;
    }

    long read(int r) {
        String text = line;
        line = "";
        require(isRegister(r));
        Matcher m = WHOLE_LINE.matcher(text);
        if (m.matches()) {
            int radix = m.group(2) != null ? 16 : m.group(3) != null ? 2 : 10;
            String digits = radix == 16 ? m.group(2) : radix == 2 ? m.group(3) : m.group(4);
            return keep(r, settled(WHOLE, signed(m.group(1), integer(digits, radix))));
        }
        m = RATIO_LINE.matcher(text);
        if (m.matches()) {
            Fraction below = integer(m.group(3), 10);
            if (below.sign() == 0) {
                throw new ArithmeticException();
            }
            return keep(r, settled(RATIO, signed(m.group(1), integer(m.group(2), 10).by(below))));
        }
        m = REAL_LINE.matcher(text);
        require(m.matches());
        String ahead = m.group(2) != null ? m.group(2) : m.group(5) != null ? m.group(5) : "0";
        String behind = m.group(3) != null ? m.group(3) : m.group(4) != null ? m.group(4) : "";
        int tens = m.group(6) == null ? 0 : Integer.parseInt(m.group(6));
        Fraction v = integer(ahead + behind, 10).times(Fraction.tens(tens - behind.replace("_", "").length()));
        return keep(r, settled(REAL, signed(m.group(1), v)));
    }

    private static Fraction integer(String digits, int radix) {
        return Fraction.of(new BigInteger(digits.replace("_", ""), radix), BigInteger.ONE);
    }

    private static Fraction signed(String sign, Fraction v) {
        return sign.equals("-") ? v.negated() : v;
    }

    long whole(int r, long v) {
        if (!isRegister(r)) {
            return 0;
        }
        keep(r, new Number(WHOLE, Fraction.of(v)));
        return 1;
    }

    long real(int r, double v) {
        double a = Math.abs(v);
        if (!isRegister(r) || !(a == 0 || a >= 0x1p-100 && a < 0x1p100)) {
            return 0;
        }
        keep(r, new Number(REAL, Fraction.of(v)));
        return 1;
    }

    long combine(int op, int a, int b, int to) {
        require(op >= 0 && op <= 10 && isRegister(to));
        Number x = number(a);
        Number y = number(b);
        BigInteger n = y.worth.up();
        require(op < 6 || y.kind == WHOLE);
        require(op != 6 || n.signum() >= 0 && n.compareTo(BigInteger.valueOf(40)) <= 0);
        require(op < 7 || x.kind == WHOLE);
        require(op != 10 || n.abs().compareTo(BigInteger.valueOf(120)) <= 0);
        return keep(to, operated(op, x, y));
    }

    private static Number operated(int op, Number x, Number y) {
        if (op >= 3 && op <= 5 && y.worth.sign() == 0) {
            throw new ArithmeticException();
        }
        if (op == 6) {
            Number power = new Number(x.kind, Fraction.of(1));
            for (int i = 0; i < y.worth.up().intValue(); i++) {
                power = operated(2, power, x);
            }
            return power;
        }
        int kind = Math.max(x.kind, y.kind);
        Fraction v = kind == REAL ? nearest(x.worth) : x.worth;
        Fraction w = kind == REAL ? nearest(y.worth) : y.worth;
        Fraction whole = op == 4 || op == 5 ? Fraction.of(v.by(w).floor(), BigInteger.ONE) : null;
        switch (op) {
            case 0: return settled(kind, v.plus(w));
            case 1: return settled(kind, v.minus(w));
            case 2: return settled(kind, v.times(w));
            case 3: return settled(kind == WHOLE ? REAL : kind, v.by(w));
            case 4: return settled(kind == RATIO ? WHOLE : kind, whole);
            case 5: return settled(kind, v.minus(w.times(whole)));
            case 7: return settled(WHOLE, Fraction.of(v.up().and(w.up()), BigInteger.ONE));
            case 8: return settled(WHOLE, Fraction.of(v.up().or(w.up()), BigInteger.ONE));
            case 9: return settled(WHOLE, Fraction.of(v.up().xor(w.up()), BigInteger.ONE));
            default: return settled(WHOLE, Fraction.of(v.up().shiftLeft(w.up().intValue()), BigInteger.ONE));
        }
    }

    long power(int x, int y, int m, int to) {
        require(isRegister(to));
        Number base = number(x);
        Number exponent = number(y);
        Number modulus = number(m);
        require(base.kind == WHOLE && exponent.kind == WHOLE && modulus.kind == WHOLE);
        require(modulus.worth.sign() > 0);
        require(exponent.worth.up().abs().compareTo(BigInteger.valueOf(999)) <= 0);
        BigInteger v = base.worth.up().modPow(exponent.worth.up(), modulus.worth.up());
        return keep(to, new Number(WHOLE, Fraction.of(v, BigInteger.ONE)));
    }

    long turn(int what, int a, int to) {
        require(what >= 0 && what <= 4 && isRegister(to));
        Number x = number(a);
        Fraction v = x.worth;
        switch (what) {
            case 0: return keep(to, settled(WHOLE, Fraction.of(v.up().divide(v.low()), BigInteger.ONE)));
            case 1: return keep(to, settled(RATIO, v));
            case 2: return keep(to, settled(REAL, v));
            case 3: return keep(to, settled(x.kind, v.negated()));
            default: return keep(to, settled(x.kind, v.amount()));
        }
    }

    long round(int a, int n, int to) {
        require(n >= -20 && n <= 20 && isRegister(to));
        Number x = number(a);
        BigInteger times = x.worth.times(Fraction.tens(n)).rounded();
        return keep(to, settled(x.kind, Fraction.of(times, BigInteger.ONE).times(Fraction.tens(-n))));
    }

    long sum(int set, int to) {
        require(set >= 0 && set <= 255 && isRegister(to));
        Fraction total = Fraction.ZERO;
        for (int r = 0; r < 8; r++) {
            if ((set >> r & 1) != 0 && registers[r] != null) {
                require(registers[r].kind != RATIO);
                total = total.plus(registers[r].worth);
            }
        }
        return keep(to, settled(REAL, total));
    }

    long compare(int a, int b) {
        return at(a) == null || at(b) == null ? 2 : at(a).worth.order(at(b).worth);
    }

    long hash(int a) {
        if (at(a) == null) {
            return 0;
        }
        Fraction v = at(a).worth;
        BigInteger h = BigInteger.valueOf(314159);
        if (v.low().mod(HASH_MODULUS).signum() != 0) {
            h = v.up().abs().multiply(v.low().modInverse(HASH_MODULUS)).mod(HASH_MODULUS);
        }
        long signed = v.sign() * h.longValueExact();
        return signed == -1 ? -2 : signed;
    }

    long show(int a) {
        Number x = number(a);
        Fraction v = x.worth;
        if (x.kind == REAL) {
            sheet = (v.sign() < 0 ? "-" : "") + (v.sign() == 0 ? "0.0" : shortest(v.amount()));
        } else {
            sheet = v.up() + (v.low().equals(BigInteger.ONE) ? "" : "/" + v.low());
        }
        return sheet.length();
    }

    /** Tries one digit, then two, and so on, each time the two nearest of so many digits. */
    private static String shortest(Fraction v) {
        int e = exponentOf(v);
        for (int n = 1; ; n++) {
            Fraction unit = Fraction.tens(e - n + 1);
            BigInteger near = v.by(unit).rounded();
            BigInteger below = v.by(unit).floor();
            BigInteger other = near.equals(below) ? below.add(BigInteger.ONE) : below;
            for (BigInteger digits : new BigInteger[] {near, other}) {
                Fraction worth = Fraction.of(digits, BigInteger.ONE).times(unit);
                if (nearestOrNull(worth) != null && nearestOrNull(worth).equals(v)) {
                    return laidOut(digits.toString(), e + digits.toString().length() - n);
                }
            }
        }
    }

    private static Fraction nearestOrNull(Fraction v) {
        try {
            return nearest(v);
        } catch (IllegalStateException e) {
            return null;
        }
    }

    private static String laidOut(String found, int e) {
        String digits = found.replaceAll("0+$", "");
        if (e < -4 || e > 15) {
            String more = digits.length() > 1 ? "." + digits.substring(1) : "";
            return digits.charAt(0) + more + exponent('e', e);
        }
        if (e < 0) {
            return "0." + "0".repeat(-e - 1) + digits;
        }
        String padded = digits + "0".repeat(Math.max(0, e + 2 - digits.length()));
        return padded.substring(0, e + 1) + "." + padded.substring(e + 1);
    }

    private static int exponentOf(Fraction v) {
        int e = -60;
        while (Fraction.tens(e + 1).order(v) <= 0) {
            e++;
        }
        return e;
    }

    private static String exponent(char mark, int e) {
        return mark + (e < 0 ? "-" : "+") + (Math.abs(e) < 10 ? "0" : "") + Math.abs(e);
    }

    long format(int a) {
        String text = line;
        line = "";
        Number x = number(a);
        boolean filled = text.length() > 1 && "<>=^".indexOf(text.charAt(1)) >= 0;
        boolean aligned = filled || !text.isEmpty() && "<>=^".indexOf(text.charAt(0)) >= 0;
        Matcher m = SPEC.matcher(text.substring(filled ? 2 : aligned ? 1 : 0));
        require(m.matches());
        char align = filled ? text.charAt(1) : aligned ? text.charAt(0) : m.group(3) != null ? '=' : '>';
        char fill = filled ? text.charAt(0) : m.group(3) != null ? '0' : ' ';
        int width = m.group(4) == null ? 0 : Integer.parseInt(m.group(4));
        int precision = m.group(6) == null ? -1 : Integer.parseInt(m.group(6));
        require(width <= 40 && precision <= 20);
        char type = m.group(7) != null ? m.group(7).charAt(0) : x.kind == WHOLE ? 'd' : 'g';
        boolean bits = "bxX".indexOf(type) >= 0;
        require(!bits && type != 'd' || x.kind == WHOLE && precision < 0);
        require(!bits || !",".equals(m.group(5)));
        String parting = m.group(5) == null ? "" : m.group(5);
        boolean alternate = m.group(2) != null;
        String head = x.worth.sign() < 0 ? "-" : m.group(1) == null || m.group(1).equals("-") ? "" : m.group(1);
        head += bits && alternate ? "0" + type : "";
        String body = body(x.worth.amount(), type, precision, parting, alternate);
        int missing = Math.max(0, width - head.length() - body.length());
        int ahead = align == '>' ? missing : align == '^' ? missing / 2 : 0;
        int between = align == '=' ? missing : 0;
        String f = String.valueOf(fill);
        sheet = f.repeat(ahead) + head + f.repeat(between) + body + f.repeat(missing - ahead - between);
        return sheet.length();
    }

    private static String body(Fraction v, char type, int given, String parting, boolean alternate) {
        int precision = given < 0 ? 6 : given;
        switch (type) {
            case 'd': return grouped(v.up().toString(), 3, parting);
            case 'b': return grouped(v.up().toString(2), 4, parting);
            case 'x': return grouped(v.up().toString(16), 4, parting);
            case 'X': return grouped(v.up().toString(16).toUpperCase(), 4, parting);
            case 'f': return fixed(v, precision, parting, alternate, false);
            case '%': return fixed(v.times(Fraction.of(100)), precision, parting, alternate, false) + "%";
            case 'e':
            case 'E': return scientific(v, precision, type, alternate, false);
            default:
                int count = Math.max(1, precision);
                int e = roundedExponent(v, count - 1);
                if (e >= -4 && e < count) {
                    return fixed(v, count - 1 - e, parting, alternate, !alternate);
                }
                return scientific(v, count - 1, type == 'g' ? 'e' : 'E', alternate, !alternate);
        }
    }

    private static String grouped(String digits, int size, String parting) {
        StringBuilder s = new StringBuilder(digits);
        for (int i = digits.length() - size; i > 0; i -= size) {
            s.insert(i, parting);
        }
        return s.toString();
    }

    private static String places(String places, boolean alternate, boolean strip) {
        String left = strip ? places.replaceAll("0+$", "") : places;
        return left.isEmpty() && !alternate ? "" : "." + left;
    }

    private static String fixed(Fraction v, int n, String parting, boolean alternate, boolean strip) {
        String digits = v.times(Fraction.tens(n)).rounded().toString();
        digits = "0".repeat(Math.max(0, n + 1 - digits.length())) + digits;
        int point = digits.length() - n;
        return grouped(digits.substring(0, point), 3, parting) + places(digits.substring(point), alternate, strip);
    }

    private static int roundedExponent(Fraction v, int n) {
        if (v.sign() == 0) {
            return 0;
        }
        int e = exponentOf(v);
        return v.times(Fraction.tens(n - e)).rounded().toString().length() > n + 1 ? e + 1 : e;
    }

    private static String scientific(Fraction v, int n, char mark, boolean alternate, boolean strip) {
        int e = roundedExponent(v, n);
        String digits = v.sign() == 0 ? "0".repeat(n + 1) : v.times(Fraction.tens(n - e)).rounded().toString();
        return digits.charAt(0) + places(digits.substring(1), alternate, strip) + exponent(mark, e);
    }

    long letter(int k) {
        return k >= 0 && k < sheet.length() ? sheet.charAt(k) : -1;
    }

    long kind(int a) {
        return at(a) == null ? -1 : at(a).kind;
    }

    long valueBits(int a) {
        boolean real = at(a) != null && at(a).kind == REAL;
        Fraction v = real ? at(a).worth : Fraction.ZERO;
        java.math.BigDecimal up = new java.math.BigDecimal(v.up());
        return Double.doubleToLongBits(up.divide(new java.math.BigDecimal(v.low())).doubleValue());
    }

    long part(int a, boolean below, int k) {
        if (at(a) == null || at(a).kind == REAL || k < 0 || k > 1) {
            return -1;
        }
        BigInteger p = below ? at(a).worth.low() : at(a).worth.up().abs();
        return p.shiftRight(60 * k).longValue() & (1L << 60) - 1;
    }

    void wipe() {
        line = "";
    }
}
