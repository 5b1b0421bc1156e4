/** Promises 30 to 34: the tea, and what would become of it. */
public final class TeaTest {
    private static final Check check = new Check("TeaTest");

    public static void main(String[] args) {
        promises30And31();
        promise32();
        promise33();
        promise34();
        nothingIsChanged();
        check.end();
    }

    private static void promises30And31() {
        AfternoonMeter x = Meters.withTea(10, 4, 2);
        int[][] due = {{1, 4, 0}, {1, 8, 0}, {1, 10, 2}, {1, 10, 6}, {2, 10, 14}};
        for (int[] row : due) {
            x.pass(row[0]);
            check.same("30: tea in minute " + x.minute(), x.tea(), row[1]);
            check.same("31: spilt in minute " + x.minute(), x.spilt(), row[2]);
        }
        x.setTea(3, 4, 2);
        check.same("30: a smaller cup", x.tea(), 3);
        check.same("31: a smaller cup", x.spilt(), 21);
        x.addNap(0, 360);
        x.pass(100);
        check.same("30: asleep", x.tea(), 3);
        check.same("31: asleep", x.spilt(), 21);
        x.begin();
        check.same("30: in another afternoon", x.tea(), 0);
        check.same("31: in another afternoon", x.spilt(), 0);
    }

    private static void promise32() {
        AfternoonMeter x = new AfternoonMeter();
        check.same("32: at first", x.spiltAtEnd(), 340);
        x.addNap(300, 360);
        check.same("32: not asleep", x.spiltAtEnd(), 280);
        x.pass(30);
        check.same("32: what ran over counts", x.spiltAtEnd(), 280);
        x.addBee(2, 0);
        check.same("32: with a bee", x.spiltAtEnd(), 10);
        x.setTea(5, 1, 0);
        check.same("32: a smaller cup, no sip", x.spiltAtEnd(), 10 + 15 + 270);
        x.pass(330);
        check.same("32: at the end", x.spiltAtEnd(), x.spilt());
        check.same("32: at the end, so much", x.spiltAtEnd(), 295);
        check.same("32: without rate", Meters.withTea(1, 0, 0).spiltAtEnd(), 0);
        check.same("32: the most", Meters.withTea(1, 9, 0).spiltAtEnd(), 360 * 9 - 1);
    }

    private static void promise33() {
        AfternoonMeter x = new AfternoonMeter();
        check.same("33: at first", x.minuteOfSpill(), 20);
        x.pass(19);
        check.same("33: one before", x.minuteOfSpill(), 20);
        x.pass(1);
        check.same("33: in the minute of now", x.minuteOfSpill(), 20);
        x.pass(5);
        check.same("33: again and again", x.minuteOfSpill(), 25);
        x.addNap(25, 40);
        check.same("33: when awake", x.minuteOfSpill(), 40);
        x.addBee(2, 0);
        check.same("33: a bee drinks", x.minuteOfSpill(), -1);
        x.setTea(20, 3, 3);
        check.same("33: it drinks as much in each other minute", x.minuteOfSpill(), 41);
        x.pass(335);
        check.same("33: at the end", x.minuteOfSpill(), -1);
        check.same("33: without rate", Meters.withTea(1, 0, 0).minuteOfSpill(), -1);
        check.same("33: at once", Meters.withTea(8, 9, 0).minuteOfSpill(), 0);
        check.same("33: a full cup is not over", Meters.withTea(9, 9, 0).minuteOfSpill(), 1);
        AfternoonMeter last = Meters.withTea(50, 0, 0);
        last.pass(359);
        last.setTea(1, 2, 0);
        check.same("33: in the last minute", last.minuteOfSpill(), 359);
    }

    private static void promise34() {
        check.same("34: without bees", new AfternoonMeter().safeRate(), 0);
        check.same("34: asleep", Meters.withNap(0, 360).safeRate(), 9);
        check.same("34: awake once", awakeFor(1, 7).safeRate(), 7);
        check.same("34: awake once, a greater cup", awakeFor(1, 9).safeRate(), 9);
        check.same("34: awake once, a still greater cup", awakeFor(1, 50).safeRate(), 9);
        check.same("34: awake twice", awakeFor(2, 11).safeRate(), 5);
        check.same("34: awake ten times", awakeFor(10, 9).safeRate(), 0);
        AfternoonMeter x = Meters.withTea(20, 9, 6);
        x.addBee(2, 1);
        check.same("34: with a bee", x.safeRate(), 3);
        x.addBee(3, 0);
        check.same("34: with another one", x.safeRate(), 5);
        x.pass(100);
        check.same("34: 17 are in the cup", x.tea(), 17);
        check.same("34: with what is in the cup", x.safeRate(), 3);
        x.setTea(20, 0, 0);
        check.same("34: without a sip, full", x.safeRate(), 0);
        x.pass(260);
        check.same("34: at the end", x.safeRate(), 9);
    }

    private static AfternoonMeter awakeFor(int minutes, int room) {
        AfternoonMeter x = Meters.withNap(0, 360 - minutes);
        x.setTea(room, 1, 3);
        return x;
    }

    private static void nothingIsChanged() {
        AfternoonMeter x = Meters.busy();
        x.spiltAtEnd();
        check.same("32: nothing is changed", Check.behaviour(x), Check.behaviour(Meters.busy()));
        x = Meters.busy();
        x.minuteOfSpill();
        check.same("33: nothing is changed", Check.behaviour(x), Check.behaviour(Meters.busy()));
        x = Meters.busy();
        x.safeRate();
        check.same("34: nothing is changed", Check.behaviour(x), Check.behaviour(Meters.busy()));
    }
}
