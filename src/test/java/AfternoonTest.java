/** Promises 9 to 14: the afternoon. */
public final class AfternoonTest {
    private static final Check check = new Check("AfternoonTest");

    public static void main(String[] args) {
        promises9And10();
        promise11();
        promises12And13();
        promise14();
        check.end();
    }

    private static void promises9And10() {
        AfternoonMeter x = new AfternoonMeter();
        for (int i = 0; i < 50; i++) {
            check.same("9: afternoon " + i, x.afternoon(), i);
            check.same("10: at first", x.minute(), 0);
            x.pass(1 + i);
            check.same("10: after some", x.minute(), 1 + i);
            x.begin();
        }
        x.pass(360);
        check.same("9: it goes on to the end", x.afternoon(), 50);
        check.same("10: at the end", x.minute(), 360);
    }

    private static void promise11() {
        AfternoonMeter x = Meters.busy();
        int[] asleep = {20, 29, 60, 89, 90, 99, 100, 149};
        int[] awake = {0, 19, 30, 59, 150, 359};
        for (int m : asleep) {
            check.same("11: asleep in " + m, x.isAsleep(m), true);
        }
        for (int m : awake) {
            check.same("11: awake in " + m, x.isAsleep(m), false);
        }
        check.same("11: first minute", Meters.withNap(0, 1).isAsleep(0), true);
        check.same("11: last minute", Meters.withNap(359, 360).isAsleep(359), true);
        check.same("11: one is enough left", overlapGivenUp().isAsleep(95), true);
        for (int m : new int[] {-1, 360, Integer.MIN_VALUE, Integer.MAX_VALUE}) {
            check.argument("11: minute " + m, Meters::busy, y -> y.isAsleep(m));
        }
    }

    private static AfternoonMeter overlapGivenUp() {
        AfternoonMeter x = Meters.busy();
        x.giveUp(0);
        return x;
    }

    private static void promises12And13() {
        AfternoonMeter x = Meters.withNap(10, 20);
        int[][] steps = {{10, 10, 0}, {1, 10, 1}, {9, 10, 10}, {1, 11, 10}, {339, 350, 10}};
        check.same("12: at first", x.awakeMinutes(), 0);
        check.same("13: at first", x.sleptMinutes(), 0);
        for (int[] step : steps) {
            x.pass(step[0]);
            check.same("12: in minute " + x.minute(), x.awakeMinutes(), step[1]);
            check.same("13: in minute " + x.minute(), x.sleptMinutes(), step[2]);
        }
        x.addNap(15, 25);
        check.same("12: overlaps count once", x.awakeMinutes(), 345);
        check.same("13: overlaps count once", x.sleptMinutes(), 15);
        x.giveUp(0);
        check.same("12: by the naps of now", x.awakeMinutes(), 350);
        check.same("13: by the naps of now", x.sleptMinutes(), 10);
        x.addNap(0, 360);
        check.same("12: never", x.awakeMinutes(), 0);
        check.same("13: always", x.sleptMinutes(), 360);
        x.begin();
        check.same("12: in a new one", x.awakeMinutes(), 0);
        check.same("13: in a new one", x.sleptMinutes(), 0);
    }

    private static void promise14() {
        AfternoonMeter x = new AfternoonMeter();
        check.same("14: without naps", x.longestAwake(), 360);
        x.addNap(200, 210);
        check.same("14: the first stretch", x.longestAwake(), 200);
        x.addNap(100, 101);
        check.same("14: the last stretch", x.longestAwake(), 150);
        x.addNap(350, 360);
        check.same("14: the last less the end", x.longestAwake(), 140);
        x.addNap(300, 301);
        check.same("14: equal ones", x.longestAwake(), 100);
        x.addNap(0, 40);
        check.same("14: in the midst", x.longestAwake(), 99);
        x.pass(360);
        check.same("14: of the whole afternoon, at its end", x.longestAwake(), 99);
        x.addNap(0, 359);
        check.same("14: nothing between", x.longestAwake(), 0);
        check.same("14: the last minute", Meters.withNap(0, 359).longestAwake(), 1);
        check.same("14: the first minute", Meters.withNap(1, 360).longestAwake(), 1);
        check.same("14: never", Meters.withNap(0, 360).longestAwake(), 0);
    }
}
