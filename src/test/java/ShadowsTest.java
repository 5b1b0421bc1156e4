/** Promises 15 to 18: shadows. */
public final class ShadowsTest {
    private static final Check check = new Check("ShadowsTest");
    private static final int[] NO_MINUTES = {-1, 360, Integer.MIN_VALUE, Integer.MAX_VALUE};
    private static final int[] NO_STICKS = {-1, 2, 3, 4, Integer.MIN_VALUE, Integer.MAX_VALUE};

    public static void main(String[] args) {
        promise15();
        promise16();
        promise17();
        promise18();
        check.end();
    }

    private static void promise15() {
        AfternoonMeter x = new AfternoonMeter();
        for (int i = 0; i < 4; i++) {
            check.same("15: sticks", x.sticks(), i);
            x.addStick(i + 1);
        }
        check.same("15: all sticks", x.sticks(), 4);
        x.begin();
        check.same("15: in another afternoon", x.sticks(), 4);
    }

    private static void promise16() {
        AfternoonMeter x = new AfternoonMeter();
        x.addStick(1);
        x.addStick(30);
        x.addStick(7);
        int[][] due = {{0, 0, 0}, {0, 59, 0}, {0, 60, 1}, {0, 179, 1}, {0, 180, 2}, {0, 359, 3}, {1, 0, 15},
            {1, 3, 15}, {1, 4, 16}, {1, 359, 104}, {2, 0, 3}, {2, 100, 9}, {2, 359, 24}};
        for (int[] row : due) {
            check.same("16: shadow of " + row[0] + " at " + row[1], x.shadowAt(row[0], row[1]), row[2]);
        }
        x.addNap(0, 360);
        check.same("16: asleep too", x.shadowAt(1, 359), 104);
        for (int m : NO_MINUTES) {
            check.argument("16: minute " + m, Meters::busy, y -> y.shadowAt(1, m));
            check.index("16: stick first, minute " + m, Meters::busy, y -> y.shadowAt(2, m));
        }
        for (int stick : NO_STICKS) {
            check.index("16: stick " + stick, Meters::busy, y -> y.shadowAt(stick, 5));
        }
        check.index("16: stick 0 of none", Meters::fresh, y -> y.shadowAt(0, 0));
        check.index("16: stick 4 of 4", Meters::full, y -> y.shadowAt(4, 0));
    }

    private static void promise17() {
        AfternoonMeter x = new AfternoonMeter();
        x.addStick(12);
        x.addStick(30);
        x.addStick(1);
        int[][] due = {{0, 20, 140}, {0, 6, 0}, {0, 7, 10}, {0, 41, 350}, {0, 42, -1}, {1, -5, 0}, {1, 0, 0},
            {1, 15, 0}, {1, 16, 4}, {1, 104, 356}, {1, 105, -1}, {2, 0, 0}, {2, 1, 60}, {2, 3, 300}, {2, 4, -1},
            {0, Integer.MIN_VALUE, 0}, {0, Integer.MAX_VALUE, -1}};
        for (int[] row : due) {
            check.same("17: " + row[0] + " so long: " + row[1], x.minuteOfShadow(row[0], row[1]), row[2]);
        }
        x.pass(200);
        check.same("17: whichever minute is now", x.minuteOfShadow(0, 7), 10);
        for (int stick : NO_STICKS) {
            check.index("17: stick " + stick, Meters::busy, y -> y.minuteOfShadow(stick, 5));
        }
        check.index("17: stick 0 of none", Meters::fresh, y -> y.minuteOfShadow(0, 1));
        check.index("17: stick 4 of 4", Meters::full, y -> y.minuteOfShadow(4, 1));
    }

    private static void promise18() {
        AfternoonMeter x = new AfternoonMeter();
        check.same("18: without sticks", x.allShadows(100), 0);
        x.addStick(12);
        check.same("18: of one", x.allShadows(100), 16);
        x.addStick(30);
        check.same("18: of two", x.allShadows(100), 56);
        x.addStick(1);
        x.addStick(1);
        check.same("18: each is cut", x.allShadows(179), 23 + 59 + 1 + 1);
        check.same("18: the first minute", x.allShadows(0), 6 + 15);
        check.same("18: the last minute", x.allShadows(359), 41 + 104 + 3 + 3);
        for (int m : NO_MINUTES) {
            check.argument("18: minute " + m, Meters::busy, y -> y.allShadows(m));
            check.argument("18: without sticks, minute " + m, Meters::fresh, y -> y.allShadows(m));
        }
    }
}
