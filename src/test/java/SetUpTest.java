/** Promises 1 to 8: what is set up. */
public final class SetUpTest {
    private static final Check check = new Check("SetUpTest");

    public static void main(String[] args) {
        promise1();
        promise2();
        promise3();
        promise4();
        promise5();
        promise6();
        promise6Refuses();
        promise7();
        promise7Refuses();
        promise8();
        check.end();
    }

    private static void promise1() {
        AfternoonMeter x = new AfternoonMeter();
        check.same("1: sticks", x.sticks(), 0);
        check.same("1: naps", x.naps(), 0);
        check.same("1: bees", x.bees(), 0);
        check.same("1: minute", x.minute(), 0);
        check.same("1: afternoon", x.afternoon(), 0);
        check.same("1: tea", x.tea(), 0);
        check.same("1: spilt", x.spilt(), 0);
        check.same("1: room 20 and rate 1", x.minuteOfSpill(), 20);
        check.same("1: rate 1", x.spiltAtEnd(), 340);
        x.pass(10);
        x.addBee(2, 0);
        x.pass(1);
        check.same("1: sip 3", x.tea(), 8);
    }

    private static void promise2() {
        AfternoonMeter x = new AfternoonMeter();
        check.same("2: first", x.addStick(1), 0);
        check.same("2: second", x.addStick(30), 1);
        check.same("2: the same again", x.addStick(30), 2);
        check.same("2: fourth", x.addStick(17), 3);
        check.same("2: sticks", x.sticks(), 4);
        check.same("2: shadow of 0", x.shadowAt(0, 60), 1);
        check.same("2: shadow of 1", x.shadowAt(1, 60), 30);
        check.same("2: shadow of 3", x.shadowAt(3, 60), 17);
        for (int height : new int[] {0, 31, -1, Integer.MIN_VALUE, Integer.MAX_VALUE}) {
            check.argument("2: height " + height, Meters::busy, y -> y.addStick(height));
            check.argument("2: height first, " + height, Meters::full, y -> y.addStick(height));
        }
        check.state("2: a fifth", Meters::full, y -> y.addStick(5));
    }

    private static void promise3() {
        AfternoonMeter x = new AfternoonMeter();
        check.same("3: first", x.addNap(0, 360), 0);
        check.same("3: second", x.addNap(0, 1), 1);
        check.same("3: third", x.addNap(359, 360), 2);
        check.same("3: the same again", x.addNap(359, 360), 3);
        check.same("3: naps", x.naps(), 4);
        check.same("3: covered at 0", x.napsAt(0), 2);
        check.same("3: covered at 1", x.napsAt(1), 1);
        check.same("3: covered at 359", x.napsAt(359), 3);
        int[][] wrong = {{-1, 5}, {0, 361}, {5, 5}, {6, 5}, {360, 360}, {360, 361}, {Integer.MIN_VALUE, 5},
            {0, Integer.MAX_VALUE}, {5, Integer.MIN_VALUE}, {Integer.MAX_VALUE, Integer.MIN_VALUE}};
        for (int[] nap : wrong) {
            String what = "3: nap " + nap[0] + " to " + nap[1];
            check.argument(what, Meters::busy, y -> y.addNap(nap[0], nap[1]));
            check.argument(what + ", first", Meters::full, y -> y.addNap(nap[0], nap[1]));
        }
        check.state("3: a ninth", Meters::full, y -> y.addNap(5, 6));
        check.same("3: the eighth", sevenNaps().addNap(5, 6), 7);
    }

    private static AfternoonMeter sevenNaps() {
        AfternoonMeter x = Meters.full();
        x.giveUp(3);
        return x;
    }

    private static void promise4() {
        AfternoonMeter x = Meters.busy();
        check.same("4: the middle one", x.giveUp(1), 2);
        check.same("4: before it", x.startOf(0), 60);
        check.same("4: behind it", x.startOf(1), 20);
        check.same("4: its length", x.lengthOf(1), 10);
        check.same("4: still covered", x.isAsleep(99), true);
        check.same("4: not covered any more", x.isAsleep(100), false);
        check.same("4: the last one", x.giveUp(1), 1);
        check.same("4: awake by the naps of now", x.awakeMinutes(), 50);
        check.same("4: the only one", x.giveUp(0), 0);
        check.same("4: none", x.naps(), 0);
        check.same("4: awake all the time", x.longestAwake(), 360);
        check.same("4: a new one", x.addNap(7, 9), 0);
        AfternoonMeter full = Meters.full();
        check.same("4: of eight", full.giveUp(0), 7);
        check.same("4: the first one now", full.startOf(0), 40);
        check.same("4: the last one now", full.startOf(6), 280);
        check.index("4: -1", Meters::busy, y -> y.giveUp(-1));
        check.index("4: 3 of 3", Meters::busy, y -> y.giveUp(3));
        check.index("4: 8 of 8", Meters::full, y -> y.giveUp(8));
        check.index("4: 0 of none", Meters::fresh, y -> y.giveUp(0));
        check.index("4: least", Meters::full, y -> y.giveUp(Integer.MIN_VALUE));
        check.index("4: greatest", Meters::full, y -> y.giveUp(Integer.MAX_VALUE));
    }

    private static void promise5() {
        AfternoonMeter x = new AfternoonMeter();
        check.same("5: first", x.addBee(2, 0), 0);
        check.same("5: second", x.addBee(2, 1), 1);
        check.same("5: third", x.addBee(30, 29), 2);
        check.same("5: the same again", x.addBee(30, 29), 3);
        check.same("5: bees", x.bees(), 4);
        check.same("5: next of 0", x.nextTick(0), 0);
        check.same("5: next of 1", x.nextTick(1), 1);
        check.same("5: next of 2", x.nextTick(2), 29);
        int[][] wrong = {{1, 0}, {31, 0}, {0, 0}, {-2, 0}, {5, 5}, {5, 6}, {5, -1}, {31, 31}, {1, 1},
            {Integer.MIN_VALUE, 0}, {Integer.MAX_VALUE, 0}, {2, Integer.MIN_VALUE}, {2, Integer.MAX_VALUE}};
        for (int[] bee : wrong) {
            String what = "5: bee " + bee[0] + ", " + bee[1];
            check.argument(what, Meters::busy, y -> y.addBee(bee[0], bee[1]));
            check.argument(what + ", first", Meters::full, y -> y.addBee(bee[0], bee[1]));
        }
        check.state("5: a seventh", Meters::full, y -> y.addBee(3, 0));
        x.addBee(3, 0);
        check.same("5: the sixth", x.addBee(3, 2), 5);
    }

    private static void promise6() {
        AfternoonMeter x = Meters.withTea(50, 9, 0);
        x.pass(4);
        check.same("6: room enough", x.setTea(36, 2, 1), 0);
        check.same("6: all is still in it", x.tea(), 36);
        check.same("6: a smaller one", x.setTea(35, 2, 1), 1);
        check.same("6: the smallest one", x.setTea(1, 2, 1), 34);
        check.same("6: what is left", x.tea(), 1);
        check.same("6: what ran over", x.spilt(), 35);
        check.same("6: a greater one", x.setTea(50, 0, 9), 0);
        check.same("6: nothing comes back", x.tea(), 1);
        x.pass(10);
        check.same("6: rate 0", x.tea(), 1);
        x.setTea(50, 9, 9);
        x.pass(5);
        check.same("6: rate 9", x.tea(), 46);
        x.addBee(2, 1);
        x.pass(1);
        check.same("6: sip 9", x.tea(), 46);
        x.setTea(50, 9, 0);
        x.pass(2);
        check.same("6: sip 0, room 50", x.tea(), 50);
        check.same("6: spilt in them", x.spilt(), 49);
    }

    private static void promise6Refuses() {
        int[][] wrong = {{0, 0, 0}, {51, 9, 9}, {-1, 1, 1}, {1, 10, 0}, {1, -1, 0}, {1, 0, 10}, {1, 0, -1},
            {Integer.MIN_VALUE, 0, 0}, {Integer.MAX_VALUE, 0, 0}, {1, Integer.MIN_VALUE, 0},
            {1, Integer.MAX_VALUE, 0}, {1, 0, Integer.MIN_VALUE}, {1, 0, Integer.MAX_VALUE}};
        for (int[] tea : wrong) {
            String what = "6: tea " + tea[0] + ", " + tea[1] + ", " + tea[2];
            check.argument(what, Meters::busy, y -> y.setTea(tea[0], tea[1], tea[2]));
        }
    }

    private static void promise7() {
        AfternoonMeter x = Meters.withTea(1, 1, 1);
        x.addBee(2, 0);
        check.same("7: run in, then drunk", x.pass(1), 0);
        check.same("7: nothing left", x.tea(), 0);
        check.same("7: run in", x.pass(1), 0);
        check.same("7: one left", x.tea(), 1);
        check.same("7: drunk before it runs over", x.pass(1), 0);
        check.same("7: two minutes, one too much", x.pass(2), 1);
        check.same("7: five went by", x.minute(), 5);
        check.same("7: all the others", x.pass(355), 178);
        check.same("7: at the end", x.minute(), 360);
        check.same("7: in the afternoon", x.spilt(), 179);

        AfternoonMeter asleep = Meters.withTea(2, 9, 9);
        asleep.addNap(1, 359);
        check.same("7: awake at first", asleep.pass(1), 7);
        asleep.addBee(2, 0);
        check.same("7: nothing is done asleep", asleep.pass(358), 0);
        check.same("7: nothing is drunk asleep", asleep.tea(), 2);
        check.same("7: awake at last", asleep.pass(1), 9);

        AfternoonMeter thirsty = Meters.withTea(50, 9, 4);
        thirsty.pass(3);
        thirsty.addBee(3, 0);
        thirsty.addBee(30, 3);
        thirsty.addBee(4, 3);
        thirsty.addBee(5, 3);
        thirsty.pass(1);
        check.same("7: each that ticks drinks", thirsty.tea(), 20);
        thirsty.setTea(50, 0, 9);
        thirsty.pass(10);
        check.same("7: or all there is", thirsty.tea(), 0);
        check.same("7: 360 at once", new AfternoonMeter().pass(360), 340);
    }

    private static void promise7Refuses() {
        for (int minutes : new int[] {0, 361, -1, Integer.MIN_VALUE, Integer.MAX_VALUE}) {
            check.argument("7: minutes " + minutes, Meters::busy, y -> y.pass(minutes));
            check.argument("7: minutes first, " + minutes, SetUpTest::ended, y -> y.pass(minutes));
        }
        check.state("7: one more than left", Meters::busy, y -> y.pass(311));
        check.state("7: 360 of 310", Meters::busy, y -> y.pass(360));
        check.state("7: 6 of 5", Meters::full, y -> y.pass(6));
        check.state("7: 1 of 0", SetUpTest::ended, y -> y.pass(1));
        AfternoonMeter x = Meters.full();
        x.pass(5);
        check.same("7: 5 of 5", x.minute(), 360);
    }

    private static AfternoonMeter ended() {
        AfternoonMeter x = new AfternoonMeter();
        x.addBee(5, 3);
        x.addNap(100, 120);
        x.pass(360);
        return x;
    }

    private static void promise8() {
        AfternoonMeter x = Meters.busy();
        x.setTea(7, 5, 1);
        x.pass(5);
        check.same("8: some is in the cup", x.tea() > 0, true);
        check.same("8: some ran over", x.spilt() > 0, true);
        check.same("8: the number", x.begin(), 1);
        check.same("8: afternoon", x.afternoon(), 1);
        check.same("8: minute", x.minute(), 0);
        check.same("8: tea", x.tea(), 0);
        check.same("8: spilt", x.spilt(), 0);
        check.same("8: sticks stay", x.sticks(), 2);
        check.same("8: naps stay", x.naps(), 3);
        check.same("8: bees stay", x.bees(), 3);
        check.same("8: the naps' minutes stay", x.napsAt(95), 2);
        check.same("8: a bee stays", x.nextTick(0), 3);
        AfternoonMeter other = Meters.busy();
        other.setTea(7, 5, 1);
        other.begin();
        check.same("8: the cup stays", x.pass(40), other.pass(40));
        check.same("8: the cup is not that of a new object", x.tea(), 7);
        check.same("8: the next", x.begin(), 2);
        check.same("8: and the next, at once", x.begin(), 3);
    }
}
