import java.lang.management.ManagementFactory;

/** The room that all calls of a run share: an object and 512 of the dearest calls stay far inside it. */
public final class RoomTest {
    private static final String DEAR = "929227995784915872903807060280344571";
    /** 7.3 million elements of four bytes each. */
    private static final long ROOM = 4 * 7_300_000L;
    private static final com.sun.management.ThreadMXBean BEAN =
            (com.sun.management.ThreadMXBean) ManagementFactory.getThreadMXBean();

    public static void main(String[] args) {
        long warmUp = run();
        long before = BEAN.getCurrentThreadAllocatedBytes();
        long again = run();
        long made = BEAN.getCurrentThreadAllocatedBytes() - before;
        Bench.due("a run makes less than the room has (" + made + " bytes)", made < ROOM, true);
        Bench.due("the same calls, the same answers", again, warmUp);
        Bench.end("RoomTest");
    }

    /** An object and not more than 512 calls: the sum of their answers. */
    private static long run() {
        Bench t = new Bench().with(0, DEAR).with(1, "123456789012345678/987654321098765431");
        t.with(2, "-1.2345678901234567e-30").with(3, "1.2345678901234567e30").with(4, "-999").with(5, "40");
        t.with(6, "887654321987654322/1129227995784915871");
        long answers = 0;
        for (int i = 0; i < 12; i++) {
            answers += calls(t.x);
        }
        return answers;
    }

    /** The dearest calls, and one of each other kind: the sum of their answers. */
    private static long calls(NumberTower x) {
        long n = x.combine(5, 2, 3, 7) + x.combine(2, 1, 6, 7) + x.combine(0, 1, 6, 7);
        n += x.power(5, 4, 0, 7) + x.turn(2, 1, 7) + x.round(3, -20, 7) + x.sum(12, 7);
        n += x.compare(1, 6) + x.hash(1) + x.hash(2) + x.kind(1) + x.part(0, false, 1);
        n += x.value(3) > 1.0 ? 1 : 0;
        n += x.show(2) + x.show(3) + x.show(1) + x.letter(5);
        n += x.write(0x2E323025) && x.format(0) > 0 ? x.letter(7) : 0;
        n += x.write(0x235F62) && x.format(0) > 0 ? x.letter(7) : 0;
        n += x.write(0x2E323067) && x.format(2) > 0 ? x.letter(7) : 0;
        n += x.write(0x31653330) && x.read(7) == 2 ? 1 : 0;
        n += x.whole(7, 5) && x.real(7, 0.1) ? 1 : 0;
        x.wipe();
        return n;
    }
}
