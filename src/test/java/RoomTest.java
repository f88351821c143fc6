import java.lang.management.ManagementFactory;

/** The room: no call makes an object but an exception; a new object is small. */
public final class RoomTest {
    private static final String DEAR = "929227995784915872903807060280344571";
    private static final com.sun.management.ThreadMXBean BEAN =
            (com.sun.management.ThreadMXBean) ManagementFactory.getThreadMXBean();

    public static void main(String[] args) {
        Bench.due("the classes are loaded", new NumberTower().kind(0), -1);
        long before = BEAN.getCurrentThreadAllocatedBytes();
        NumberTower fresh = new NumberTower();
        long made = BEAN.getCurrentThreadAllocatedBytes() - before;
        Bench.due("a new object takes less than 16 KB (" + made + ")", made < 16_000, true);
        Bench.due("its kind(0)", fresh.kind(0), -1);

        Bench t = new Bench().with(0, DEAR).with(1, "123456789012345678/987654321098765431");
        t.with(2, "-1.2345678901234567e-30").with(3, "1.2345678901234567e30").with(4, "-999").with(5, "40");
        t.with(6, "887654321987654322/1129227995784915871");
        calls(t.x);
        before = BEAN.getCurrentThreadAllocatedBytes();
        long answers = 0;
        for (int i = 0; i < 64; i++) {
            answers += calls(t.x);
        }
        long kept = BEAN.getCurrentThreadAllocatedBytes() - before;
        Bench.due("the calls make nothing (" + kept + " bytes)", kept < 1000, true);
        Bench.due("the same calls, the same answers", answers, 64 * calls(t.x));
        Bench.end("RoomTest");
    }

    /** The dearest calls, and one of each other kind: the sum of their answers. */
    private static long calls(NumberTower x) {
        long n = x.combine(5, 2, 3, 7) + x.combine(2, 1, 6, 7) + x.combine(0, 1, 6, 7);
        n += x.power(5, 4, 0, 7) + x.turn(2, 1, 7) + x.round(3, -20, 7) + x.sum(12, 7);
        n += x.compare(1, 6) + x.hash(1) + x.hash(2) + x.kind(1) + x.part(0, false, 1);
        n += x.value(3) > 1.0 ? 1 : 0;
        n += x.show(2) + x.show(3) + x.show(1) + x.letter(5);
        n += x.write(0x2E323025) && x.format(0) > 0 ? x.letter(7) : 0;
        n += x.write(0x235F62) && x.format(0) > 0 ? x.letter(7) : 0;
        n += x.write(0x2E323067) && x.format(2) > 0 ? x.letter(7) : 0;
        n += x.write(0x31653330) && x.read(7) == 2 ? 1 : 0;
        n += x.whole(7, 5) && x.real(7, 0.1) ? 1 : 0;
        x.wipe();
        return n;
    }
}
