/** Promise 1 (a new object), and what 17, 18, 19 answer where there is no number. */
public final class NewObjectTest {
    public static void main(String[] args) {
        Bench t = new Bench();
        NumberTower x = t.x;
        int[] places = {0, 1, 2, 3, 4, 5, 6, 7, 8, -1, Integer.MIN_VALUE, Integer.MAX_VALUE};
        for (int r : places) {
            Bench.due("kind(" + r + ")", x.kind(r), -1);
            Bench.due("value(" + r + ")", x.value(r), 0.0);
            Bench.due("hash(" + r + ")", x.hash(r), 0);
            Bench.due("compare(" + r + ", 0)", x.compare(r, 0), 2);
            Bench.due("compare(" + r + ", " + r + ")", x.compare(r, r), 2);
            Bench.due("part(" + r + ", false, 0)", x.part(r, false, 0), -1);
            Bench.due("part(" + r + ", true, 1)", x.part(r, true, 1), -1);
            Bench.due("show(" + r + ")", Bench.outcome(() -> x.show(r)), Bench.IAE);
            Bench.due("format(" + r + ")", Bench.outcome(() -> x.format(r)), Bench.IAE);
            Bench.due("letter(" + r + ")", x.letter(r), -1);
        }
        Bench.due("read of the empty line", Bench.outcome(() -> x.read(0)), Bench.IAE);
        for (int i = 0; i < 10; i++) {
            Bench.due("room for 40 characters", x.write(Bench.packed("    ")), true);
        }
        Bench.due("no room for 41", x.write(Bench.packed(" ")), false);
        objectsAreApart();
        Bench.end("NewObjectTest");
    }

    private static void objectsAreApart() {
        Bench a = new Bench();
        Bench b = new Bench();
        a.x.whole(0, 5);
        a.line("12");
        Bench.due("the other one's kind", b.x.kind(0), -1);
        Bench.due("the other one's line", Bench.outcome(() -> b.x.read(0)), Bench.IAE);
        Bench.due("its own line", Bench.outcome(() -> a.x.read(1)), 0);
    }
}
