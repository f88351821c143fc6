/** THE LINE, promises 1 (a new object), 2 (write) and 3 (wipe): each sentence at its bounds. */
public final class EdgesOfLineTest {
    private static final int ROOM = 40;

    public static void main(String[] args) {
        atFirstEmpty();
        atMost40Characters();
        noRoomForAllIsNoRoomForAny();
        nothingMoreIsAlwaysTaken();
        charactersFrom32To126();
        aWrongCharacterAnywhereChangesNothing();
        zerosWhereverTheyStand();
        wipeMakesItEmpty();
        readAndFormatMakeRoomAgain();
        otherCallsLeaveIt();
        Bench.end("EdgesOfLineTest");
    }

    /** The line has so many characters, zeros. */
    private static Bench filled(int count) {
        Bench t = new Bench();
        t.line("0".repeat(count));
        return t;
    }

    /** Checks how many characters there is still room for. */
    private static void dueRoom(String call, NumberTower x, int room) {
        for (int i = 0; i < room; i++) {
            Bench.due(call + ": room for " + (i + 1), x.write('0'), true);
        }
        Bench.due(call + ": room for " + (room + 1), x.write('0'), false);
    }

    private static void atFirstEmpty() {
        Bench.due("read", Bench.outcome(() -> new NumberTower().read(0)), Bench.IAE);
        NumberTower x = new NumberTower();
        x.whole(0, 5);
        Bench.due("format by the empty line", Bench.outcome(() -> x.format(0)), 1);
        dueRoom("a new object", new NumberTower(), ROOM);
        Bench.due("the sheet of a new object", new NumberTower().letter(0), -1);
    }

    private static void atMost40Characters() {
        for (int more = 1; more <= 4; more++) {
            int w = Bench.packed("7777".substring(0, more));
            Bench last = filled(ROOM - more);
            Bench.due(more + " characters to 40", last.x.write(w), true);
            Bench.due("none behind 40", last.x.write('7'), false);
            Bench.due("read of 40", Bench.outcome(() -> last.x.read(0)), 0);
            Bench.due("what was read", last.held(0), "0 " + "7777".substring(0, more));
            Bench first = filled(ROOM + 1 - more);
            Bench.due(more + " characters to 41", first.x.write(w), false);
        }
    }

    private static void noRoomForAllIsNoRoomForAny() {
        for (int room = 0; room < 4; room++) {
            for (int more = room + 1; more <= 4; more++) {
                Bench t = filled(ROOM - room - 1);
                t.x.write('5');
                Bench.due("no room", t.x.write(Bench.packed("7777".substring(0, more))), false);
                for (int i = 0; i < room; i++) {
                    Bench.due("room for what is short enough", t.x.write('0'), true);
                }
                Bench.due("read", Bench.outcome(() -> t.x.read(0)), 0);
                Bench.due("what was read", t.held(0), "0 5" + "0".repeat(room));
            }
        }
    }

    private static void nothingMoreIsAlwaysTaken() {
        Bench.due("write(0) on the empty line", new NumberTower().write(0), true);
        Bench t = filled(ROOM);
        Bench.due("write(0) on the full line", t.x.write(0), true);
        Bench.due("write(0) again", t.x.write(0), true);
        Bench.due("read", Bench.outcome(() -> t.x.read(0)), 0);
        Bench.due("an empty line stays empty", new Bench().x.write(0) + t.read(0, ""), "true" + Bench.IAE);
    }

    private static void charactersFrom32To126() {
        for (int c = 1; c < 256; c++) {
            boolean fine = c >= 32 && c <= 126;
            for (int place = 0; place < 4; place++) {
                NumberTower x = new NumberTower();
                Bench.due("write(" + c + " << " + 8 * place + ")", x.write(c << 8 * place), fine);
            }
        }
        // that they are kept: as a FILL
        for (int c = 32; c <= 126; c++) {
            Bench t = new Bench().with(0, "5");
            t.x.write(c << 24 | '>' << 16 | '3' << 8);
            Bench.due("format by FILL " + c, Bench.outcome(() -> t.x.format(0)), 3);
            Bench.due("the FILL", t.x.letter(0), c);
        }
    }

    private static void aWrongCharacterAnywhereChangesNothing() {
        int[] wrong = {1, 31, 127, 128, 255};
        for (int c : wrong) {
            for (int place = 0; place < 4; place++) {
                Bench t = new Bench();
                t.line("12");
                int others = 0x37373737 & ~(255 << 8 * place);
                Bench.due("a wrong one among others", t.x.write(others | c << 8 * place), false);
                Bench.due("a wrong one among zeros", t.x.write(c << 8 * place), false);
                Bench.due("the line is 12", Bench.outcome(() -> t.x.read(0)) + " " + t.held(0), "0 0 12");
            }
        }
        Bench t = filled(ROOM);
        Bench.due("a wrong one on the full line", t.x.write(31), false);
    }

    private static void zerosWhereverTheyStand() {
        for (int mask = 0; mask < 16; mask++) {
            NumberTower x = new NumberTower();
            int w = 0;
            StringBuilder want = new StringBuilder("9");
            for (int place = 3; place >= 0; place--) {
                if ((mask >> place & 1) != 0) {
                    w |= '1' + place << 8 * place;
                    want.append(1 + place);
                }
            }
            x.write('9');
            Bench.due("write(" + w + ")", x.write(w), true);
            Bench.due("read", Bench.outcome(() -> x.read(0)), 0);
            Bench.due("what was read", x.part(0, false, 0), want);
        }
    }

    private static void wipeMakesItEmpty() {
        Bench t = filled(ROOM);
        t.x.wipe();
        Bench.due("read of the empty line", Bench.outcome(() -> t.x.read(0)), Bench.IAE);
        Bench full = filled(ROOM);
        full.x.wipe();
        dueRoom("wiped", full.x, ROOM);
        Bench empty = new Bench();
        empty.x.wipe();
        empty.x.wipe();
        dueRoom("wiped when it was empty", empty.x, ROOM);
        Bench one = new Bench();
        one.line("4");
        one.x.wipe();
        one.x.write('2');
        Bench.due("what comes behind wipe", Bench.outcome(() -> one.x.read(0)) + one.held(0), "00 2");
    }

    private static void readAndFormatMakeRoomAgain() {
        String[] lines = {"0".repeat(ROOM), "x".repeat(ROOM), "1/" + "0".repeat(ROOM - 2), "9".repeat(ROOM)};
        String[] answers = {"0", Bench.IAE, Bench.AE, Bench.ISE};
        for (int i = 0; i < lines.length; i++) {
            Bench t = new Bench();
            Bench.due("read of " + lines[i], t.read(0, lines[i]), answers[i]);
            dueRoom("read of " + lines[i], t.x, ROOM);
            Bench none = new Bench();
            Bench.due("read into no register", none.read(8, lines[i]), Bench.IAE);
            dueRoom("read into no register", none.x, ROOM);
        }
        Bench t = new Bench().with(0, "5");
        Bench.due("format by no SPEC", t.formatted(0, "0".repeat(ROOM)), Bench.IAE);
        dueRoom("format by no SPEC", t.x, ROOM);
        Bench none = new Bench();
        Bench.due("format of no number", none.formatted(0, "d"), Bench.IAE);
        dueRoom("format of no number", none.x, ROOM);
        Bench good = new Bench().with(0, "5");
        Bench.due("format", good.formatted(0, "d"), "5");
        dueRoom("format", good.x, ROOM);
    }

    private static void otherCallsLeaveIt() {
        Bench t = new Bench();
        t.line("12");
        NumberTower x = t.x;
        x.whole(0, 7);
        x.whole(1, 5);
        x.real(2, 0.5);
        x.combine(0, 0, 1, 3);
        x.power(0, 1, 0, 4);
        x.turn(1, 0, 5);
        x.round(2, 0, 6);
        x.sum(7, 7);
        Bench.due("looks", x.compare(0, 1) + x.hash(0) + x.letter(0) + x.kind(0) + x.part(0, false, 0), 14);
        Bench.due("value", x.value(2), 0.5);
        Bench.due("show", x.show(0), 1);
        Bench.due("the line is 12", Bench.outcome(() -> x.read(0)) + " " + t.held(0), "0 0 12");
    }
}
