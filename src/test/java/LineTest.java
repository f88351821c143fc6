/** Promises 2 (write) and 3 (wipe). */
public final class LineTest {
    public static void main(String[] args) {
        bytesFromTheHighestOn();
        zerosArePassedOver();
        wrongCharacters();
        room();
        wipe();
        Bench.end("LineTest");
    }

    private static String lineRead(NumberTower x) {
        String answer = Bench.outcome(() -> x.read(0));
        return answer + (x.kind(0) == 0 ? " " + x.part(0, false, 0) : "");
    }

    private static void bytesFromTheHighestOn() {
        NumberTower x = new NumberTower();
        Bench.due("write('1234')", x.write(0x31323334), true);
        Bench.due("write('5')", x.write(0x35), true);
        Bench.due("the line", lineRead(x), "0 12345");
    }

    private static void zerosArePassedOver() {
        NumberTower x = new NumberTower();
        Bench.due("write(0)", x.write(0), true);
        Bench.due("write 1 0 0 2", x.write(0x31000032), true);
        Bench.due("write 0 3 0 4", x.write(0x00330034), true);
        Bench.due("write 5 0 0 0", x.write(0x35000000), true);
        Bench.due("write 0 0 6 0", x.write(0x00003600), true);
        Bench.due("the line", lineRead(x), "0 123456");
    }

    private static void wrongCharacters() {
        NumberTower x = new NumberTower();
        x.write('7');
        int[] wrong = {31, 127, 128, 255, 10, 1, 0x3132331F, 0x7F323334, 0x31FF3334, 0x31328034, -1};
        for (int w : wrong) {
            Bench.due("write(" + w + ")", x.write(w), false);
        }
        Bench.due("the line is as it was", lineRead(x), "0 7");
        Bench.due("write(32)", x.write(32), true);
        Bench.due("write(126)", x.write(126), true);
    }

    private static void room() {
        NumberTower x = new NumberTower();
        for (int i = 0; i < 19; i++) {
            Bench.due("two zeros", x.write(0x3030), true);
        }
        Bench.due("41 characters", x.write(0x30303000), false);
        Bench.due("42 characters", x.write(0x30303030), false);
        Bench.due("40 characters", x.write(0x00300039), true);
        Bench.due("no character more", x.write(0x31), false);
        Bench.due("nothing more is no character", x.write(0), true);
        Bench.due("the line", lineRead(x), "0 9");
    }

    private static void wipe() {
        Bench t = new Bench();
        t.line("12");
        t.x.wipe();
        Bench.due("the line is empty", t.read(0, ""), Bench.IAE);
        t.x.wipe();
        t.x.write('3');
        t.x.wipe();
        t.x.write('4');
        Bench.due("the line", lineRead(t.x), "0 4");
        t.x.whole(1, 8);
        t.x.show(1);
        t.x.wipe();
        Bench.due("the sheet stays", t.sheet(), "8");
        Bench.due("the numbers stay", t.held(1), "0 8");
    }
}
