/** Promises 9 to 14: the afternoon. */
public final class AfternoonTest {
    private static final Check check = new Check("AfternoonTest");
    private static final Sentences document = new Sentences(check, 9, 14);

    public static void main(String[] args) {
        promise9();
        promise10();
        promise11();
        promise12();
        promise13();
        promise14();
        document.end();
    }

    private static void promise9() {
        document.underPromise(9);
        document.says("Returns the number of the afternoon.", () -> {
            AfternoonMeter x = new AfternoonMeter();
            for (int i = 0; i < 50; i++) {
                check.same("in the first minute", x.afternoon(), i);
                x.pass(360);
                check.same("at the end", x.afternoon(), i);
                x.begin();
            }
        });
    }

    private static void promise10() {
        document.underPromise(10);
        document.says("Returns the minute of now.", () -> {
            AfternoonMeter x = new AfternoonMeter();
            for (int i = 0; i < 50; i++) {
                check.same("at first", x.minute(), 0);
                x.pass(1 + i);
                check.same("after some", x.minute(), 1 + i);
                x.pass(1);
                check.same("after one more", x.minute(), 2 + i);
                x.begin();
            }
            x.pass(360);
            check.same("at the end", x.minute(), 360);
        });
    }

    private static void promise11() {
        document.underPromise(11);
        document.says("Returns whether one is asleep in it.", () -> {
            AfternoonMeter x = Meters.busy();
            for (int m : new int[] {20, 29, 60, 89, 90, 99, 100, 149}) {
                check.same("in " + m, x.isAsleep(m), true);
            }
            for (int m : new int[] {0, 19, 30, 59, 150, 359}) {
                check.same("in " + m, x.isAsleep(m), false);
            }
            check.same("in the first minute", Meters.withNap(0, 1).isAsleep(0), true);
            check.same("in the last minute", Meters.withNap(359, 360).isAsleep(359), true);
            x.giveUp(0);
            check.same("one of two is left", x.isAsleep(95), true);
            x.giveUp(0);
            check.same("none of two is left", x.isAsleep(95), false);
        });
        document.says("Throws `IllegalArgumentException` if minute is not 0 to 359", () -> {
            Refusals.noMinute(check, AfternoonMeter::isAsleep);
            check.same("minute 0", Meters.ended().isAsleep(0), true);
            check.same("minute 359", Meters.ended().isAsleep(359), false);
        });
    }

    private static void promise12() {
        document.underPromise(12);
        document.says("Returns in how many of the minutes that went by one was awake", () -> {
            AfternoonMeter x = Meters.withNap(10, 20);
            check.same("at first", x.awakeMinutes(), 0);
            int[][] steps = {{10, 10}, {1, 10}, {9, 10}, {1, 11}, {339, 350}};
            for (int[] step : steps) {
                x.pass(step[0]);
                check.same("in minute " + x.minute(), x.awakeMinutes(), step[1]);
            }
            x.begin();
            check.same("in another afternoon", x.awakeMinutes(), 0);
            check.same("all of them", Meters.after(360).awakeMinutes(), 360);
        });
        document.says("by the naps of now.", () -> {
            AfternoonMeter x = Meters.after(360);
            x.addNap(10, 20);
            check.same("a new one", x.awakeMinutes(), 350);
            x.addNap(15, 25);
            check.same("overlaps count once", x.awakeMinutes(), 345);
            x.giveUp(0);
            check.same("given up", x.awakeMinutes(), 350);
            x.addNap(0, 360);
            check.same("never", x.awakeMinutes(), 0);
        });
    }

    private static void promise13() {
        document.underPromise(13);
        document.says("Returns in how many of them one was asleep.", () -> {
            AfternoonMeter x = Meters.withNap(10, 20);
            check.same("at first", x.sleptMinutes(), 0);
            int[][] steps = {{10, 0}, {1, 1}, {9, 10}, {1, 10}, {339, 10}};
            for (int[] step : steps) {
                x.pass(step[0]);
                check.same("in minute " + x.minute(), x.sleptMinutes(), step[1]);
            }
            x.addNap(15, 25);
            check.same("overlaps count once", x.sleptMinutes(), 15);
            x.giveUp(0);
            check.same("by the naps of now", x.sleptMinutes(), 10);
            x.addNap(0, 360);
            check.same("always", x.sleptMinutes(), 360);
            x.begin();
            check.same("in another afternoon", x.sleptMinutes(), 0);
            check.same("none of them", Meters.after(360).sleptMinutes(), 0);
        });
    }

    private static void promise14() {
        document.underPromise(14);
        document.says("Returns how many minutes of the whole afternoon are the longest stretch "
            + "in which one is awake.", () -> {
            AfternoonMeter x = new AfternoonMeter();
            check.same("without naps", x.longestAwake(), 360);
            x.addNap(200, 210);
            check.same("the first stretch", x.longestAwake(), 200);
            x.addNap(100, 101);
            check.same("the last stretch", x.longestAwake(), 150);
            x.addNap(350, 360);
            check.same("the last less the end", x.longestAwake(), 140);
            x.addNap(300, 301);
            check.same("equal ones", x.longestAwake(), 100);
            x.addNap(0, 40);
            check.same("in the midst", x.longestAwake(), 99);
            x.pass(360);
            check.same("at its end", x.longestAwake(), 99);
            x.addNap(0, 359);
            check.same("nothing between", x.longestAwake(), 0);
            check.same("the last minute", Meters.withNap(0, 359).longestAwake(), 1);
            check.same("the first minute", Meters.withNap(1, 360).longestAwake(), 1);
            check.same("never", Meters.withNap(0, 360).longestAwake(), 0);
        });
    }
}
