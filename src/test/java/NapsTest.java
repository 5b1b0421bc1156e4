/** Promises 19 to 23: naps. */
public final class NapsTest {
    private static final Check check = new Check("NapsTest");
    private static final int[] NO_NAPS = {-1, 3, 4, 8, Integer.MIN_VALUE, Integer.MAX_VALUE};

    public static void main(String[] args) {
        promise19();
        promises20And21();
        promise22();
        promise23();
        check.end();
    }

    private static void promise19() {
        AfternoonMeter x = new AfternoonMeter();
        for (int i = 0; i < 8; i++) {
            check.same("19: naps", x.naps(), i);
            x.addNap(i, 300);
        }
        check.same("19: all naps", x.naps(), 8);
        x.giveUp(4);
        check.same("19: one less", x.naps(), 7);
        x.begin();
        check.same("19: in another afternoon", x.naps(), 7);
    }

    private static void promises20And21() {
        AfternoonMeter x = Meters.busy();
        int[][] due = {{60, 40}, {90, 60}, {20, 10}};
        for (int nap = 0; nap < 3; nap++) {
            check.same("20: start of " + nap, x.startOf(nap), due[nap][0]);
            check.same("21: length of " + nap, x.lengthOf(nap), due[nap][1]);
        }
        check.same("21: all of it", Meters.withNap(0, 360).lengthOf(0), 360);
        check.same("20: the last minute", Meters.withNap(359, 360).startOf(0), 359);
        check.same("21: the last minute", Meters.withNap(359, 360).lengthOf(0), 1);
        for (int nap : NO_NAPS) {
            check.index("20: nap " + nap, Meters::busy, y -> y.startOf(nap));
            check.index("21: nap " + nap, Meters::busy, y -> y.lengthOf(nap));
        }
        check.index("20: 0 of none", Meters::fresh, y -> y.startOf(0));
        check.index("21: 0 of none", Meters::fresh, y -> y.lengthOf(0));
        check.index("20: 8 of 8", Meters::full, y -> y.startOf(8));
        check.index("21: 8 of 8", Meters::full, y -> y.lengthOf(8));
    }

    private static void promise22() {
        AfternoonMeter x = Meters.busy();
        int[][] due = {{0, 0}, {19, 0}, {20, 1}, {29, 1}, {30, 0}, {60, 1}, {89, 1}, {90, 2}, {99, 2}, {100, 1},
            {149, 1}, {150, 0}, {359, 0}};
        for (int[] row : due) {
            check.same("22: at " + row[0], x.napsAt(row[0]), row[1]);
        }
        x.giveUp(1);
        check.same("22: one less", x.napsAt(95), 1);
        AfternoonMeter eight = new AfternoonMeter();
        for (int i = 0; i < 8; i++) {
            eight.addNap(359 - i, 360);
        }
        check.same("22: all of them", eight.napsAt(359), 8);
        check.same("22: one of them", eight.napsAt(352), 1);
        for (int m : new int[] {-1, 360, Integer.MIN_VALUE, Integer.MAX_VALUE}) {
            check.argument("22: minute " + m, Meters::busy, y -> y.napsAt(m));
        }
    }

    private static void promise23() {
        AfternoonMeter x = Meters.busy();
        check.same("23: overlapped at its end", x.minutesAlone(0), 30);
        check.same("23: overlapped at its start", x.minutesAlone(1), 50);
        check.same("23: not overlapped", x.minutesAlone(2), 10);
        x.addNap(70, 72);
        check.same("23: within another one", x.minutesAlone(3), 0);
        check.same("23: around another one", x.minutesAlone(0), 28);
        x.addNap(20, 30);
        check.same("23: the same minutes", x.minutesAlone(2), 0);
        x.giveUp(2);
        check.same("23: not the same any more", x.minutesAlone(3), 10);
        x.addNap(0, 360);
        check.same("23: of the whole afternoon, whichever minute is now", x.minutesAlone(4), 360 - 90 - 10);
        for (int nap : NO_NAPS) {
            check.index("23: nap " + nap, Meters::busy, y -> y.minutesAlone(nap));
        }
        check.index("23: 0 of none", Meters::fresh, y -> y.minutesAlone(0));
        check.index("23: 8 of 8", Meters::full, y -> y.minutesAlone(8));
    }
}
