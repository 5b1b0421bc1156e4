/** Promises 1 to 8: what is set up. */
public final class SetUpTest {
    private static final Check check = new Check("SetUpTest");
    private static final Sentences document = new Sentences(check, 1, 8);

    public static void main(String[] args) {
        promise1();
        promise2();
        promise3();
        promise3Refuses();
        promise4();
        promise5();
        promise6();
        promise6Refuses();
        promise7();
        promise7Refuses();
        promise8();
        document.end();
    }

    private static void promise1() {
        document.underPromise(1);
        document.says("Creates a machine without sticks, naps and bees, in the minute 0 of the afternoon 0.", () -> {
            AfternoonMeter x = new AfternoonMeter();
            isNew(x);
            Meters.ended().begin();
            isNew(x);
            check.same("room 20 and rate 1", x.minuteOfSpill(), 20);
            check.same("rate 1", x.spiltAtEnd(), 340);
            x.pass(10);
            x.addBee(2, 0);
            x.pass(1);
            check.same("sip 3", x.tea(), 8);
        });
    }

    private static void isNew(AfternoonMeter x) {
        check.same("sticks", x.sticks(), 0);
        check.same("naps", x.naps(), 0);
        check.same("bees", x.bees(), 0);
        check.same("minute", x.minute(), 0);
        check.same("afternoon", x.afternoon(), 0);
        check.same("tea", x.tea(), 0);
        check.same("spilt", x.spilt(), 0);
    }

    private static void promise2() {
        document.underPromise(2);
        document.says("Returns its number.", () -> {
            AfternoonMeter x = new AfternoonMeter();
            check.same("first", x.addStick(1), 0);
            check.same("second", x.addStick(30), 1);
            check.same("the same again", x.addStick(30), 2);
            x.begin();
            check.same("fourth, in another afternoon", x.addStick(17), 3);
            int[] due = {1, 30, 30, 17};
            for (int stick = 0; stick < 4; stick++) {
                check.same("height of " + stick, x.shadowAt(stick, 60), due[stick]);
            }
        });
        document.says("Throws `IllegalArgumentException` if height is not 1 to 30", () -> {
            for (int height : new int[] {0, 31, -1, Integer.MIN_VALUE, Integer.MAX_VALUE}) {
                check.argument("height " + height, Meters::busy, y -> y.addStick(height));
                check.argument("height " + height + ", the first one", Meters::fresh, y -> y.addStick(height));
            }
            check.same("height 1", Meters.fresh().addStick(1), 0);
            check.same("height 30", Meters.fresh().addStick(30), 0);
        });
        document.says("Throws `IllegalStateException` if there are 4", () -> {
            check.state("a fifth", Meters::full, y -> y.addStick(1));
            check.state("a fifth, of the greatest height", Meters::ended, y -> y.addStick(30));
            AfternoonMeter x = Meters.busy();
            check.same("the third", x.addStick(1), 2);
            check.same("the fourth", x.addStick(1), 3);
        });
    }

    private static void promise3() {
        document.underPromise(3);
        document.says("Returns its number.", () -> {
            AfternoonMeter x = new AfternoonMeter();
            check.same("first", x.addNap(0, 360), 0);
            check.same("second", x.addNap(0, 1), 1);
            check.same("third", x.addNap(359, 360), 2);
            check.same("the same again", x.addNap(359, 360), 3);
            check.same("covered at 0", x.napsAt(0), 2);
            check.same("covered at 1", x.napsAt(1), 1);
            check.same("covered at 359", x.napsAt(359), 3);
            x.giveUp(0);
            check.same("behind one that was given up", x.addNap(100, 200), 3);
            check.same("its first minute", x.startOf(3), 100);
            check.same("its length", x.lengthOf(3), 100);
        });
    }

    private static void promise3Refuses() {
        document.says("Throws `IllegalArgumentException` if from is less than 0, ", () -> {
            refusesNaps(new int[][] {{-1, 5}, {-1, 360}, {-5, -1}, {-1, 0}, {Integer.MIN_VALUE, 5},
                {Integer.MIN_VALUE, Integer.MAX_VALUE}});
            check.same("from 0", Meters.withNap(0, 1).startOf(0), 0);
        });
        document.says("to is greater than 360, ", () -> {
            refusesNaps(new int[][] {{0, 361}, {359, 361}, {360, 361}, {361, 362}, {0, Integer.MAX_VALUE},
                {Integer.MAX_VALUE - 1, Integer.MAX_VALUE}});
            check.same("to 360", Meters.withNap(0, 360).lengthOf(0), 360);
        });
        document.says("or to is not greater than from", () -> {
            refusesNaps(new int[][] {{5, 5}, {6, 5}, {0, 0}, {359, 359}, {360, 360}, {359, 0}, {5, Integer.MIN_VALUE},
                {Integer.MAX_VALUE, 5}, {Integer.MAX_VALUE, Integer.MIN_VALUE}});
            check.same("1 greater", Meters.withNap(359, 360).lengthOf(0), 1);
        });
        document.says("Throws `IllegalStateException` if there are 8", () -> {
            check.state("a ninth", Meters::full, y -> y.addNap(5, 6));
            check.state("a ninth, at the end", Meters::ended, y -> y.addNap(0, 360));
            AfternoonMeter x = Meters.full();
            x.giveUp(3);
            check.same("the eighth again", x.addNap(5, 6), 7);
            check.same("all of them", x.naps(), 8);
        });
    }

    private static void refusesNaps(int[][] naps) {
        for (int[] nap : naps) {
            String what = nap[0] + " to " + nap[1];
            check.argument(what, Meters::busy, y -> y.addNap(nap[0], nap[1]));
            check.argument(what + ", the first one", Meters::fresh, y -> y.addNap(nap[0], nap[1]));
        }
    }

    private static void promise4() {
        document.underPromise(4);
        document.says("Gives a nap up", () -> {
            AfternoonMeter x = Meters.busy();
            x.giveUp(1);
            check.same("what another one covers too", x.isAsleep(99), true);
            check.same("what it covered alone", x.isAsleep(100), false);
            x.giveUp(1);
            check.same("what went by", x.awakeMinutes(), 50);
            x.giveUp(0);
            check.same("awake all the time", x.longestAwake(), 360);
        });
        document.says("those behind it have a number 1 less then.", () -> {
            AfternoonMeter x = Meters.full();
            x.giveUp(0);
            startsAre(x, 40, 80, 120, 160, 200, 240, 280);
            x.giveUp(6);
            startsAre(x, 40, 80, 120, 160, 200, 240);
            x.giveUp(2);
            startsAre(x, 40, 80, 160, 200, 240);
            check.same("length of the one before it", x.lengthOf(1), 12);
            check.same("length of the one behind it", x.lengthOf(2), 14);
        });
        document.says("Returns how many naps there are then.", () -> {
            AfternoonMeter x = Meters.full();
            for (int left = 7; left >= 0; left--) {
                check.same("the last one", x.giveUp(left), left);
            }
            x.addNap(5, 6);
            x.addNap(7, 8);
            check.same("the first one of two", x.giveUp(0), 1);
            check.same("the only one", x.giveUp(0), 0);
        });
        document.says("Throws `IndexOutOfBoundsException` if there is no such nap", () -> {
            Refusals.noSuchNap(check, AfternoonMeter::giveUp);
            check.index("one that was given up", SetUpTest::emptied, y -> y.giveUp(0));
        });
    }

    private static void startsAre(AfternoonMeter x, int... due) {
        check.same("naps", x.naps(), due.length);
        for (int nap = 0; nap < due.length; nap++) {
            check.same("start of " + nap, x.startOf(nap), due[nap]);
        }
    }

    private static AfternoonMeter emptied() {
        AfternoonMeter x = Meters.withNap(3, 9);
        x.giveUp(0);
        return x;
    }

    private static void promise5() {
        document.underPromise(5);
        document.says("Returns its number.", () -> {
            AfternoonMeter x = new AfternoonMeter();
            check.same("first", x.addBee(2, 0), 0);
            check.same("second", x.addBee(2, 1), 1);
            check.same("third", x.addBee(30, 29), 2);
            check.same("the same again", x.addBee(30, 29), 3);
            x.begin();
            check.same("in another afternoon", x.addBee(30, 0), 4);
            int[] due = {0, 1, 29, 29, 0};
            for (int bee = 0; bee < 5; bee++) {
                check.same("next tick of " + bee, x.nextTick(bee), due[bee]);
            }
        });
        document.says("Throws `IllegalArgumentException` if period is not 2 to 30", () -> {
            refusesBees(new int[][] {{1, 0}, {31, 0}, {31, 30}, {0, 0}, {-2, 0}, {-5, -6}, {Integer.MIN_VALUE, 0},
                {Integer.MAX_VALUE, 0}});
            check.same("period 2", Meters.withBee(2, 1).bees(), 1);
            check.same("period 30", Meters.withBee(30, 5).bees(), 1);
        });
        document.says("or beat is not 0 to the period less 1", () -> {
            refusesBees(new int[][] {{5, 5}, {5, 6}, {5, -1}, {2, 2}, {2, -1}, {30, 30}, {30, -1},
                {2, Integer.MIN_VALUE}, {2, Integer.MAX_VALUE}, {30, Integer.MAX_VALUE}});
            check.same("beat 0", Meters.withBee(5, 0).bees(), 1);
            check.same("beat 4 of 5", Meters.withBee(5, 4).bees(), 1);
        });
        document.says("Throws `IllegalStateException` if there are 6", () -> {
            check.state("a seventh", Meters::full, y -> y.addBee(3, 0));
            check.state("a seventh, at the end", Meters::ended, y -> y.addBee(2, 0));
            AfternoonMeter x = Meters.busy();
            for (int bee = 3; bee < 6; bee++) {
                check.same("up to the sixth", x.addBee(3, 2), bee);
            }
        });
    }

    private static void refusesBees(int[][] bees) {
        for (int[] bee : bees) {
            String what = bee[0] + ", " + bee[1];
            check.argument(what, Meters::busy, y -> y.addBee(bee[0], bee[1]));
            check.argument(what + ", the first one", Meters::fresh, y -> y.addBee(bee[0], bee[1]));
        }
    }

    private static void promise6() {
        document.underPromise(6);
        document.says("Sets the tea", () -> {
            AfternoonMeter x = Meters.withTea(50, 9, 9);
            x.pass(5);
            check.same("rate 9", x.tea(), 45);
            x.addBee(2, 1);
            x.pass(1);
            check.same("sip 9", x.tea(), 45);
            x.setTea(50, 9, 0);
            x.pass(2);
            check.same("sip 0, room 50", x.tea(), 50);
            x.setTea(50, 0, 1);
            x.pass(10);
            check.same("rate 0, sip 1", x.tea(), 45);
            check.same("it is set, not made anew", x.spilt(), 13);
        });
        document.says("what is in a cup that gets too small runs over.", () -> {
            AfternoonMeter x = after4(36);
            check.same("just room enough", x.tea(), 36);
            check.same("nothing ran over", x.spilt(), 0);
            x.setTea(35, 2, 1);
            check.same("1 too much", x.tea(), 35);
            check.same("1 ran over", x.spilt(), 1);
            x.setTea(1, 2, 1);
            check.same("in the smallest one", x.tea(), 1);
            check.same("all else ran over", x.spilt(), 35);
            x.setTea(50, 0, 9);
            check.same("nothing comes back", x.tea(), 1);
            AfternoonMeter asleep = after4(50);
            asleep.addNap(0, 360);
            check.same("asleep too", asleep.setTea(30, 0, 0), 6);
        });
        document.says("Returns how much runs over by that.", () -> {
            AfternoonMeter x = after4(50);
            check.same("room enough", x.setTea(50, 2, 1), 0);
            check.same("just room enough", x.setTea(36, 2, 1), 0);
            check.same("1 too much", x.setTea(35, 2, 1), 1);
            check.same("the smallest one", x.setTea(1, 2, 1), 34);
            check.same("a greater one", x.setTea(50, 2, 1), 0);
            check.same("an empty one", Meters.fresh().setTea(1, 9, 9), 0);
        });
    }

    /** 36 are in a cup with so much room. */
    private static AfternoonMeter after4(int room) {
        AfternoonMeter x = Meters.withTea(room, 9, 0);
        x.pass(4);
        return x;
    }

    private static void promise6Refuses() {
        document.says("Throws `IllegalArgumentException` if room is not 1 to 50, ", () -> {
            refusesTea(new int[][] {{0, 4, 2}, {51, 4, 2}, {-1, 4, 2}, {Integer.MIN_VALUE, 4, 2},
                {Integer.MAX_VALUE, 4, 2}, {0, -1, -1}, {51, 10, 10}});
            check.same("room 1", after4(50).setTea(1, 0, 0), 35);
            check.same("room 50", after4(50).setTea(50, 0, 0), 0);
        });
        document.says("rate is not 0 to 9, ", () -> {
            refusesTea(new int[][] {{1, -1, 2}, {1, 10, 2}, {50, -1, 9}, {50, 10, 0}, {1, Integer.MIN_VALUE, 2},
                {1, Integer.MAX_VALUE, 2}});
            check.same("rate 0", Meters.withTea(1, 0, 5).spiltAtEnd(), 0);
            check.same("rate 9", Meters.withTea(1, 9, 5).spiltAtEnd(), 360 * 9 - 1);
        });
        document.says("or sip is not 0 to 9", () -> {
            refusesTea(new int[][] {{1, 4, -1}, {1, 4, 10}, {50, 0, -1}, {50, 9, 10}, {1, 4, Integer.MIN_VALUE},
                {1, 4, Integer.MAX_VALUE}});
            check.same("sip 0", Meters.withTea(5, 1, 0).minuteOfSpill(), 5);
            check.same("sip 9", Meters.withTea(5, 1, 9).minuteOfSpill(), 5);
        });
    }

    private static void refusesTea(int[][] teas) {
        for (int[] tea : teas) {
            String what = tea[0] + ", " + tea[1] + ", " + tea[2];
            check.argument(what, Meters::busy, y -> y.setTea(tea[0], tea[1], tea[2]));
            check.argument(what + ", the first one", Meters::fresh, y -> y.setTea(tea[0], tea[1], tea[2]));
        }
    }

    private static void promise7() {
        document.underPromise(7);
        document.says("Lets minutes go by.", () -> {
            AfternoonMeter x = Meters.withTea(50, 9, 4);
            x.pass(3);
            check.same("3 minutes", x.minute(), 3);
            x.addBee(3, 0);
            x.addBee(30, 3);
            x.addBee(4, 3);
            x.addBee(5, 3);
            x.pass(1);
            check.same("each that ticks drinks", x.tea(), 20);
            x.setTea(50, 0, 9);
            x.pass(10);
            check.same("or all there is", x.tea(), 0);
            x.pass(346);
            check.same("all the others", x.minute(), 360);
        });
        document.says("Returns how much tea runs over in them.", () -> {
            AfternoonMeter x = Meters.withTea(1, 1, 1);
            x.addBee(2, 0);
            check.same("run in, then drunk", x.pass(1), 0);
            check.same("run in", x.pass(1), 0);
            check.same("drunk before it runs over", x.pass(1), 0);
            check.same("two minutes, one too much", x.pass(2), 1);
            check.same("in them alone", x.pass(355), 178);
            check.same("in the afternoon", x.spilt(), 179);
            AfternoonMeter asleep = Meters.withTea(2, 9, 9);
            asleep.addNap(1, 359);
            check.same("awake at first", asleep.pass(1), 7);
            asleep.addBee(2, 0);
            check.same("nothing is done asleep", asleep.pass(358), 0);
            check.same("awake at last", asleep.pass(1), 9);
            check.same("360 at once", new AfternoonMeter().pass(360), 340);
        });
    }

    private static void promise7Refuses() {
        document.says("Throws `IllegalArgumentException` if minutes is not 1 to 360", () -> {
            for (int minutes : new int[] {0, 361, -1, -360, Integer.MIN_VALUE, Integer.MAX_VALUE}) {
                check.argument(minutes + " at first", Meters::fresh, y -> y.pass(minutes));
                check.argument(minutes + " in the midst", Meters::busy, y -> y.pass(minutes));
                check.argument(minutes + " at the end", Meters::ended, y -> y.pass(minutes));
            }
            check.same("1", Meters.after(1).minute(), 1);
            check.same("360", Meters.after(360).minute(), 360);
        });
        document.says("Throws `IllegalStateException` if the afternoon has fewer minutes left", () -> {
            check.state("360 of 359", () -> Meters.after(1), y -> y.pass(360));
            check.state("311 of 310", Meters::busy, y -> y.pass(311));
            check.state("6 of 5", Meters::full, y -> y.pass(6));
            check.state("2 of 1", () -> Meters.after(359), y -> y.pass(2));
            check.state("1 of 0", Meters::ended, y -> y.pass(1));
            AfternoonMeter x = Meters.full();
            x.pass(5);
            check.same("5 of 5", x.minute(), 360);
            x.begin();
            x.pass(360);
            check.same("360 of another afternoon", x.minute(), 360);
        });
    }

    private static void promise8() {
        document.underPromise(8);
        document.says("Begins another afternoon: the minute 0, no tea in the cup, none ran over", () -> {
            AfternoonMeter x = spilling();
            check.same("some is in the cup", x.tea() > 0, true);
            check.same("some ran over", x.spilt() > 0, true);
            x.begin();
            check.same("afternoon", x.afternoon(), 1);
            check.same("minute", x.minute(), 0);
            check.same("tea", x.tea(), 0);
            check.same("spilt", x.spilt(), 0);
        });
        document.says("sticks, naps, bees and the cup stay.", () -> {
            AfternoonMeter x = spilling();
            x.begin();
            check.same("sticks", x.sticks(), 2);
            check.same("a stick", x.shadowAt(1, 60), 30);
            check.same("naps", x.naps(), 3);
            check.same("a nap", x.startOf(1), 90);
            check.same("the naps' minutes", x.napsAt(95), 2);
            check.same("bees", x.bees(), 3);
            check.same("a bee", x.nextTick(0), 3);
            check.same("rate and sip", x.pass(1), 0);
            check.same("5 less 1", x.tea(), 4);
            x.pass(20);
            check.same("room", x.tea(), 7);
        });
        document.says("Returns the number of this afternoon.", () -> {
            AfternoonMeter x = new AfternoonMeter();
            check.same("in the first minute", x.begin(), 1);
            check.same("again, at once", x.begin(), 2);
            x.pass(100);
            check.same("in the midst", x.begin(), 3);
            x.pass(360);
            check.same("at the end", x.begin(), 4);
        });
    }

    /** The busy one, with another cup, so that some ran over and some is left. */
    private static AfternoonMeter spilling() {
        AfternoonMeter x = Meters.busy();
        x.setTea(7, 5, 1);
        x.pass(5);
        return x;
    }
}
