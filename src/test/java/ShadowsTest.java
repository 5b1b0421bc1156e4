/** Promises 15 to 18: shadows. */
public final class ShadowsTest {
    private static final Check check = new Check("ShadowsTest");
    private static final Sentences document = new Sentences(check, 15, 18);

    public static void main(String[] args) {
        promise15();
        promise16();
        promise17();
        promise18();
        document.end();
    }

    private static AfternoonMeter withSticks(int... heights) {
        AfternoonMeter x = new AfternoonMeter();
        for (int height : heights) {
            x.addStick(height);
        }
        return x;
    }

    private static void promise15() {
        document.underPromise(15);
        document.says("Returns how many sticks there are.", () -> {
            AfternoonMeter x = new AfternoonMeter();
            for (int i = 0; i < 4; i++) {
                check.same("sticks", x.sticks(), i);
                x.addStick(i + 1);
            }
            check.same("all sticks", x.sticks(), 4);
            x.begin();
            check.same("in another afternoon", x.sticks(), 4);
        });
    }

    private static void promise16() {
        document.underPromise(16);
        document.says("Returns the length of its shadow then.", () -> {
            AfternoonMeter x = withSticks(1, 30, 7);
            int[][] due = {{0, 0, 0}, {0, 59, 0}, {0, 60, 1}, {0, 179, 1}, {0, 180, 2}, {0, 359, 3}, {1, 0, 15},
                {1, 3, 15}, {1, 4, 16}, {1, 359, 104}, {2, 0, 3}, {2, 100, 9}, {2, 359, 24}};
            for (int[] row : due) {
                check.same("of " + row[0] + " at " + row[1], x.shadowAt(row[0], row[1]), row[2]);
            }
            x.addNap(0, 360);
            x.pass(200);
            check.same("asleep, and whichever minute is now", x.shadowAt(1, 359), 104);
        });
        document.says("Throws `IndexOutOfBoundsException` if there is no such stick", () -> {
            Refusals.noSuchStick(check, (x, stick) -> x.shadowAt(stick, 5));
            Refusals.noSuchStick(check, (x, stick) -> x.shadowAt(stick, -1));
        });
        document.says("Throws `IllegalArgumentException` if minute is not 0 to 359", () -> {
            Refusals.noMinute(check, (x, minute) -> x.shadowAt(1, minute));
            check.same("minute 0", Meters.ended().shadowAt(0, 0), 15);
            check.same("minute 359", Meters.ended().shadowAt(0, 359), 104);
        });
    }

    private static void promise17() {
        document.underPromise(17);
        document.says("Returns the first minute in which its shadow is so long or longer", () -> {
            AfternoonMeter x = withSticks(12, 30, 1);
            int[][] due = {{0, 20, 140}, {0, 6, 0}, {0, 7, 10}, {0, 41, 350}, {1, -5, 0}, {1, 0, 0}, {1, 15, 0},
                {1, 16, 4}, {1, 104, 356}, {2, 0, 0}, {2, 1, 60}, {2, 3, 300}, {0, Integer.MIN_VALUE, 0}};
            for (int[] row : due) {
                check.same("of " + row[0] + ", so long: " + row[1], x.minuteOfShadow(row[0], row[1]), row[2]);
            }
            x.pass(200);
            x.addNap(0, 360);
            check.same("asleep, and whichever minute is now", x.minuteOfShadow(0, 7), 10);
            check.same("in the last but one, the latest there is", withSticks(29).minuteOfShadow(0, 101), 358);
        });
        document.says("-1 if there is none.", () -> {
            AfternoonMeter x = withSticks(12, 30, 1);
            int[][] none = {{0, 42}, {1, 105}, {2, 4}, {0, Integer.MAX_VALUE}};
            for (int[] row : none) {
                check.same("of " + row[0] + ", so long: " + row[1], x.minuteOfShadow(row[0], row[1]), -1);
            }
        });
        document.says("Throws `IndexOutOfBoundsException` if there is no such stick", () -> {
            Refusals.noSuchStick(check, (x, stick) -> x.minuteOfShadow(stick, 5));
            Refusals.noSuchStick(check, (x, stick) -> x.minuteOfShadow(stick, Integer.MAX_VALUE));
        });
    }

    private static void promise18() {
        document.underPromise(18);
        document.says("Returns the sum of all shadows then.", () -> {
            AfternoonMeter x = new AfternoonMeter();
            check.same("without sticks", x.allShadows(100), 0);
            x.addStick(12);
            check.same("of one", x.allShadows(100), 16);
            x.addStick(30);
            check.same("of two", x.allShadows(100), 56);
            x.addStick(1);
            x.addStick(1);
            check.same("each is cut", x.allShadows(179), 23 + 59 + 1 + 1);
            check.same("in the first minute", x.allShadows(0), 6 + 15);
            check.same("in the last minute", x.allShadows(359), 41 + 104 + 3 + 3);
        });
        document.says("Throws `IllegalArgumentException` if minute is not 0 to 359", () -> {
            Refusals.noMinute(check, AfternoonMeter::allShadows);
            check.argument("360, without sticks", Meters::fresh, x -> x.allShadows(360));
            check.argument("-1, without sticks", Meters::fresh, x -> x.allShadows(-1));
        });
    }
}
