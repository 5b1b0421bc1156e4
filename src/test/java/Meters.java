/** Objects that several tests begin with. */
final class Meters {
    private Meters() {
    }

    static AfternoonMeter fresh() {
        return new AfternoonMeter();
    }

    /** 2 sticks, 3 naps (one within another one's end), 3 bees, and 50 minutes gone by. */
    static AfternoonMeter busy() {
        AfternoonMeter x = new AfternoonMeter();
        x.addStick(12);
        x.addStick(30);
        x.addNap(60, 100);
        x.addNap(90, 150);
        x.addNap(20, 30);
        x.addBee(7, 3);
        x.addBee(30, 0);
        x.addBee(2, 1);
        x.setTea(10, 4, 2);
        x.pass(50);
        return x;
    }

    /** As many sticks, naps and bees as there may be, in the minute 355. */
    static AfternoonMeter full() {
        AfternoonMeter x = new AfternoonMeter();
        for (int i = 0; i < 4; i++) {
            x.addStick(30 - i);
        }
        for (int i = 0; i < 8; i++) {
            x.addNap(40 * i, 40 * i + 10 + i);
        }
        for (int i = 0; i < 6; i++) {
            x.addBee(5 + 5 * i, i);
        }
        x.pass(355);
        return x;
    }

    /** The full one at the end of its afternoon. */
    static AfternoonMeter ended() {
        AfternoonMeter x = full();
        x.pass(5);
        return x;
    }

    static AfternoonMeter withNap(int from, int to) {
        AfternoonMeter x = new AfternoonMeter();
        x.addNap(from, to);
        return x;
    }

    static AfternoonMeter withBee(int period, int beat) {
        AfternoonMeter x = new AfternoonMeter();
        x.addBee(period, beat);
        return x;
    }

    static AfternoonMeter withTea(int room, int rate, int sip) {
        AfternoonMeter x = new AfternoonMeter();
        x.setTea(room, rate, sip);
        return x;
    }

    /** So many minutes have gone by in a new object without naps and bees. */
    static AfternoonMeter after(int minutes) {
        AfternoonMeter x = new AfternoonMeter();
        x.pass(minutes);
        return x;
    }
}
