/** The last paragraph of 'Terms', promise 1 and 'What it is': registers, refusals, and an object's 512 calls. */
public final class EdgesOfRegistersTest {
    private static final int CALLS = 512;
    private static final int[] NO_REGISTER = {-1, 8, 9, 255, 256, Integer.MIN_VALUE, Integer.MAX_VALUE};

    public static void main(String[] args) {
        atFirstThereAreNoNumbers();
        aRegisterIsFrom0To7();
        aRegisterThatIsNoneIsLikeOneWithoutANumber();
        registersAreApart();
        objectsAreApart();
        allOfTheCalls();
        Bench.end("EdgesOfRegistersTest");
    }

    private static void atFirstThereAreNoNumbers() {
        for (int r = 0; r < 8; r++) {
            NumberTower x = new NumberTower();
            int a = r;
            Bench.due("kind", x.kind(r), NumberTower.NONE);
            Bench.due("hash", x.hash(r), 0);
            Bench.due("value", x.value(r), 0.0);
            Bench.due("part", x.part(r, false, 0), -1);
            Bench.due("part", x.part(r, true, 0), -1);
            Bench.due("compare", x.compare(r, r), 2);
            Bench.due("show", Bench.outcome(() -> x.show(a)), Bench.IAE);
            Bench.due("format", Bench.outcome(() -> x.format(a)), Bench.IAE);
            Bench.due("turn", Bench.outcome(() -> x.turn(0, a, a)), Bench.IAE);
            Bench.due("round", Bench.outcome(() -> x.round(a, 0, a)), Bench.IAE);
            Bench.due("combine", Bench.outcome(() -> x.combine(0, a, a, a)), Bench.IAE);
            Bench.due("power", Bench.outcome(() -> x.power(a, a, a, a)), Bench.IAE);
            Bench.due("read", Bench.outcome(() -> x.read(a)), Bench.IAE);
            Bench.due("letter", x.letter(r), -1);
            Bench.due("still no number", x.kind(r), NumberTower.NONE);
            Bench.due("sum of none", Bench.outcome(() -> x.sum(255, a)), 2);
        }
        Bench.due("NONE", NumberTower.NONE, -1);
    }

    private static void aRegisterIsFrom0To7() {
        for (int r = 0; r < 8; r++) {
            NumberTower x = new NumberTower();
            int a = r;
            Bench.due("whole", x.whole(r, 6), true);
            Bench.due("real", x.real(r, 0.5), true);
            x.write('6');
            Bench.due("read", Bench.outcome(() -> x.read(a)), 0);
            Bench.due("combine", Bench.outcome(() -> x.combine(0, a, a, a)), 0);
            Bench.due("power", Bench.outcome(() -> x.power(a, a, a, a)), 0);
            Bench.due("turn", Bench.outcome(() -> x.turn(1, a, a)), 1);
            Bench.due("round", Bench.outcome(() -> x.round(a, 0, a)), 1);
            Bench.due("sum", Bench.outcome(() -> x.sum(255 - (1 << a), a)), 2);
            Bench.due("compare", x.compare(r, r), 0);
            Bench.due("show", Bench.outcome(() -> x.show(a)), 3);
            Bench.due("format", Bench.outcome(() -> x.format(a)), 1);
        }
        for (int r : NO_REGISTER) {
            Witness.refused("sum(0, " + r + ")", x -> x.sum(0, r), Bench.IAE);
            Witness.refused("turn(4, 0, " + r + ")", x -> x.turn(4, 0, r), Bench.IAE);
            Witness.refused("round(0, 0, " + r + ")", x -> x.round(0, 0, r), Bench.IAE);
            Witness.refused("combine(0, 0, 0, " + r + ")", x -> x.combine(0, 0, 0, r), Bench.IAE);
            Witness.refused("power(0, 0, 0, " + r + ")", x -> x.power(0, 0, 0, r), Bench.IAE);
            Witness.refused("show(" + r + ")", x -> x.show(r), Bench.IAE);
            Witness.refusedWithLine("read(" + r + ")", "7", x -> x.read(r), Bench.IAE);
            Witness.refusedWithLine("format(" + r + ")", "", x -> x.format(r), Bench.IAE);
            Witness.answered("whole(" + r + ", 1)", x -> x.whole(r, 1) ? 1 : 0, 0, -1);
            Witness.answered("real(" + r + ", 1.0)", x -> x.real(r, 1.0) ? 1 : 0, 0, -1);
        }
    }

    private static void aRegisterThatIsNoneIsLikeOneWithoutANumber() {
        for (int r : NO_REGISTER) {
            NumberTower x = new Witness("12").t.x;
            Bench.due("kind(" + r + ")", x.kind(r), x.kind(4));
            Bench.due("value(" + r + ")", x.value(r), x.value(4));
            Bench.due("hash(" + r + ")", x.hash(r), x.hash(4));
            for (int other = 0; other < 8; other++) {
                Bench.due("compare(" + r + ", " + other + ")", x.compare(r, other), x.compare(4, other));
                Bench.due("compare(" + other + ", " + r + ")", x.compare(other, r), x.compare(other, 4));
            }
            for (int k = -1; k <= 2; k++) {
                Bench.due("part(" + r + ", false, " + k + ")", x.part(r, false, k), x.part(4, false, k));
                Bench.due("part(" + r + ", true, " + k + ")", x.part(r, true, k), x.part(4, true, k));
            }
        }
    }

    private static void registersAreApart() {
        String[] numbers = {"1", "-2", "3/4", "-5/6", "7.5", "-8.25", Bench.MOST, "1/" + Bench.MOST};
        String[] held = {"0 1", "0 -2", "1 3/4", "1 -5/6", "2 7.5", "2 -8.25", "0 " + Bench.MOST, "1 1/" + Bench.MOST};
        Bench t = new Bench();
        for (int r = 0; r < 8; r++) {
            t.with(r, numbers[r]);
        }
        for (int r = 7; r >= 0; r--) {
            Bench.due("register " + r, t.held(r), held[r]);
        }
        t.x.turn(4, 0, 1);
        t.x.whole(0, 99);
        Bench.due("a copy stays what it is", t.held(1), "0 1");
        t.x.turn(3, 1, 0);
        Bench.due("so does what it was copied from", t.held(1) + ", " + t.held(0), "0 1, 0 -1");
    }

    private static void objectsAreApart() {
        Bench a = new Bench().with(0, "1");
        Bench b = new Bench().with(0, "2/3");
        a.shown(0);
        b.line("12");
        Bench.due("the one's number", a.held(0), "0 1");
        Bench.due("the other one's number", b.x.kind(0) + " " + b.x.part(0, true, 0), "1 3");
        Bench.due("the one's line", Bench.outcome(() -> a.x.read(1)), Bench.IAE);
        Bench.due("the other one's line", Bench.outcome(() -> b.x.read(1)), 0);
        Bench.due("the one's sheet", a.sheet(), "1");
        Bench.due("the other one's sheet", b.sheet(), "");
    }

    /** Each call may be the 512th one, and all of them may be the same. */
    private static void allOfTheCalls() {
        for (int kind = 0; kind < 8; kind++) {
            NumberTower x = new NumberTower();
            long got = 0;
            long want = 0;
            for (int call = 1; call <= CALLS; call++) {
                got = nth(x, kind, call);
                want = call;
                if (got != want) {
                    break;
                }
            }
            Bench.due("run of calls " + kind, got, want);
        }
    }

    /** The answer of a call, told as the number of the call if it is the one that is due. */
    private static long nth(NumberTower x, int kind, int call) {
        switch (kind) {
            case 0: return x.write(call % 2 == 0 ? 0 : 127) == (call % 2 == 0) ? call : -1;
            case 1: return x.whole(call % 8, call) ? call : -1;
            case 2: return x.real(call % 8, call) ? call : -1;
            case 3: return "throws.IllegalArgumentException".equals(Bench.outcome(() -> x.read(0))) ? call : -1;
            case 4: return x.sum(255, call % 8) == 2 ? call : -1;
            case 5: return x.compare(0, call) == 2 ? call : -1;
            case 6: return x.letter(call) == -1 ? call : -1;
            default: return turned(x, call);
        }
    }

    /** The first call gives a WHOLE, each further one adds it to a sum that is a register. */
    private static long turned(NumberTower x, int call) {
        if (call == 1) {
            return x.whole(0, 1) ? call : -1;
        }
        if (call == 2) {
            return x.turn(4, 0, 1) == 0 ? call : -1;
        }
        if (call < CALLS) {
            return x.combine(0, 0, 1, 1) == 0 ? call : -1;
        }
        return x.part(1, false, 0) == CALLS - 2 ? call : -1;
    }
}
