import java.util.List;
import java.util.function.Consumer;
import java.util.function.Supplier;

/** 'What it is' and 'Terms': what holds for several calls. */
public final class TermsTest {
    private static final Check check = new Check("TermsTest");
    private static final Sentences document = new Sentences(check, "What it is", "Terms");
    // What an object answers after these is free.
    private static final int CALLS = 512;

    public static void main(String[] args) {
        calls();
        minutes();
        sticks();
        naps();
        bees();
        tea();
        howAMinuteGoes();
        exceptions();
        document.end();
    }

    private static void calls() {
        document.under("What it is");
        document.says("An object is used for at most 512 calls after it has been made; "
            + "what later calls answer is free.", TermsTest::theLastCallIsAsGoodAsTheFirst);
    }

    private static void theLastCallIsAsGoodAsTheFirst() {
        AfternoonMeter x = new AfternoonMeter();
        for (int call = 1; call <= CALLS; call++) {
            check.same("call " + call + ", begin", x.begin(), call);
        }
        AfternoonMeter refusing = new AfternoonMeter();
        for (int call = 1; call < CALLS; call++) {
            refuse(refusing);
        }
        check.same("behind 511 refused calls", refusing.digest(), new AfternoonMeter().digest());
        AfternoonMeter napping = new AfternoonMeter();
        for (int call = 1; call < CALLS - 1; call += 2) {
            check.same("call " + call + ", addNap", napping.addNap(0, 360), 0);
            check.same("the call behind it, giveUp", napping.giveUp(0), 0);
        }
        check.same("call 511, addNap", napping.addNap(1, 360), 0);
        check.same("call 512, longestAwake", napping.longestAwake(), 1);
    }

    private static void refuse(AfternoonMeter x) {
        try {
            x.addStick(0);
            check.same("a stick without height", "taken", "refused");
        } catch (IllegalArgumentException e) {
            check.same("a stick without height", "refused", "refused");
        }
    }

    private static void minutes() {
        document.under("Terms");
        document.says("All numbers are whole, and / is cut towards 0.", () -> {
            AfternoonMeter x = new AfternoonMeter();
            x.addStick(1);
            x.addStick(29);
            check.same("119 / 120", x.shadowAt(0, 59), 0);
            check.same("239 / 120", x.shadowAt(0, 179), 1);
            check.same("29 * 419 / 120", x.shadowAt(1, 359), 101);
        });
        document.says("Minutes. An afternoon has 360 minutes, 0 to 359, in their order", () -> {
            check.same("360 go by", new AfternoonMeter().pass(360), 340);
            check.state("361 do not", () -> Meters.after(360), y -> y.pass(1));
            AfternoonMeter x = Meters.withNap(1, 2);
            int[] due = {1, 1, 2, 3};
            for (int tea : due) {
                x.pass(1);
                check.same("the tea behind minute " + (x.minute() - 1), x.tea(), tea);
            }
        });
        document.says("the minute of now is the one that comes next, 360 at the end (0, at first)", () -> {
            AfternoonMeter x = new AfternoonMeter();
            check.same("at first", x.minute(), 0);
            x.pass(359);
            check.same("one before the end", x.minute(), 359);
            x.pass(1);
            check.same("at the end", x.minute(), 360);
        });
        document.says("Afternoons are numbered from 0.", () -> {
            AfternoonMeter x = new AfternoonMeter();
            check.same("the first one", x.afternoon(), 0);
            check.same("the second one", x.begin(), 1);
        });
    }

    private static void sticks() {
        document.says("Sticks. At most 4, numbered from 0", () -> {
            AfternoonMeter x = new AfternoonMeter();
            for (int stick = 0; stick < 4; stick++) {
                check.same("the number", x.addStick(5), stick);
            }
            check.same("at most", x.sticks(), 4);
            check.state("one more", Meters::full, y -> y.addStick(5));
        });
        document.says("each has a height, 1 to 30.", () -> {
            AfternoonMeter x = new AfternoonMeter();
            x.addStick(1);
            x.addStick(30);
            check.same("the least, in the minute 60", x.shadowAt(0, 60), 1);
            check.same("the greatest, in the minute 60", x.shadowAt(1, 60), 30);
        });
        document.says("At a minute, its shadow is its height * (60 + minute) / 120 long.", () -> {
            AfternoonMeter x = new AfternoonMeter();
            x.addStick(30);
            x.addStick(13);
            for (int m = 0; m < 360; m += 40) {
                check.same("of 30 in " + m, x.shadowAt(0, m), 30 * (60 + m) / 120);
                check.same("of 13 in " + m, x.shadowAt(1, m), 13 * (60 + m) / 120);
            }
            check.same("the shortest", x.shadowAt(0, 0), 15);
            check.same("the longest", x.shadowAt(0, 359), 104);
        });
    }

    private static void naps() {
        document.says("Naps. At most 8, numbered from 0", () -> {
            AfternoonMeter x = new AfternoonMeter();
            for (int nap = 0; nap < 8; nap++) {
                check.same("the number", x.addNap(5, 6), nap);
            }
            check.same("at most", x.naps(), 8);
            check.state("one more", Meters::full, y -> y.addNap(5, 6));
        });
        document.says("each goes from a minute to another one, the last one not counted any more", () -> {
            AfternoonMeter x = Meters.withNap(5, 7);
            check.same("before it", x.isAsleep(4), false);
            check.same("its first minute", x.isAsleep(5), true);
            check.same("its last minute", x.isAsleep(6), true);
            check.same("the one it goes to", x.isAsleep(7), false);
        });
        document.says("naps may overlap.", () -> {
            AfternoonMeter x = Meters.withNap(5, 8);
            x.addNap(7, 10);
            x.addNap(5, 8);
            x.addNap(0, 360);
            check.same("two of the same and a longer one", x.napsAt(6), 3);
            check.same("all", x.napsAt(7), 4);
        });
        document.says("One is asleep in a minute, if some nap covers it, otherwise awake.", () -> {
            AfternoonMeter x = Meters.fresh();
            check.same("no nap", x.isAsleep(7), false);
            x.addNap(5, 8);
            check.same("one nap", x.isAsleep(7), true);
            x.addNap(7, 10);
            check.same("two naps", x.isAsleep(7), true);
            x.giveUp(0);
            check.same("one of them is left", x.isAsleep(7), true);
            x.giveUp(0);
            check.same("none is left", x.isAsleep(7), false);
        });
    }

    private static void bees() {
        document.says("Bees. At most 6, numbered from 0", () -> {
            AfternoonMeter x = new AfternoonMeter();
            for (int bee = 0; bee < 6; bee++) {
                check.same("the number", x.addBee(9, 5), bee);
            }
            check.same("at most", x.bees(), 6);
            check.state("one more", Meters::full, y -> y.addBee(9, 5));
        });
        document.says("each has a period, 2 to 30, and a beat, 0 to the period less 1.", () -> {
            int[][] taken = {{2, 0}, {2, 1}, {30, 0}, {30, 29}};
            for (int[] bee : taken) {
                check.same(bee[0] + ", " + bee[1], Meters.withBee(bee[0], bee[1]).nextTick(0), bee[1]);
            }
        });
        document.says("It ticks in each minute that divided by the period leaves the beat, "
            + "if one is awake in it.", () -> {
            AfternoonMeter x = Meters.withBee(30, 29);
            x.addBee(30, 0);
            x.addBee(2, 1);
            x.addNap(29, 31);
            x.pass(360);
            check.same("29, 59, .. 359, but for 29", x.ticksOf(0), 11);
            check.same("0, 30, .. 330, but for 30", x.ticksOf(1), 11);
            check.same("1, 3, .. 359, but for 29", x.ticksOf(2), 179);
        });
    }

    private static void tea() {
        document.says("Tea. A cup has room for 1 to 50 (20, at first)", () -> {
            check.same("20 go in", Meters.after(20).tea(), 20);
            check.same("21 do not", Meters.after(21).spilt(), 1);
            check.same("room for 1", Meters.withTea(1, 1, 0).minuteOfSpill(), 1);
            check.same("room for 50", Meters.withTea(50, 1, 0).minuteOfSpill(), 50);
        });
        document.says("a rate, 0 to 9 (1, at first)", () -> {
            check.same("1 in a minute", Meters.after(1).tea(), 1);
            check.same("0 in all minutes", teaAfter(1, Meters.withTea(50, 0, 0)), 0);
            check.same("9 in a minute", teaAfter(1, Meters.withTea(50, 9, 0)), 9);
        });
        document.says("and a sip, 0 to 9 (3, at first)", () -> {
            AfternoonMeter x = Meters.withBee(30, 10);
            check.same("3 of 11", teaAfter(11, x), 8);
            check.same("none of 9", teaAfter(1, sipping(0)), 9);
            check.same("all of 9", teaAfter(1, sipping(9)), 0);
        });
        document.says("there is some tea in the cup (0, at first)", () -> {
            check.same("at first", Meters.fresh().tea(), 0);
            check.same("some", Meters.after(7).tea(), 7);
        });
        document.says("and some that ran over (0, at first).", () -> {
            check.same("at first", Meters.fresh().spilt(), 0);
            check.same("some", Meters.after(27).spilt(), 7);
        });
    }

    private static int teaAfter(int minutes, AfternoonMeter x) {
        x.pass(minutes);
        return x.tea();
    }

    /** The rate 9, and one bee that ticks in the minute 0. */
    private static AfternoonMeter sipping(int sip) {
        AfternoonMeter x = Meters.withTea(50, 9, sip);
        x.addBee(30, 0);
        return x;
    }

    private static void howAMinuteGoes() {
        document.says("A minute goes like this: if one is awake in it, as much tea as the rate is runs into the cup",
            () -> check.same("rate 9, twice", teaAfter(2, Meters.withTea(50, 9, 0)), 18));
        document.says("then, for each bee that ticks, as much as the sip is is drunk, or all there is", () -> {
            AfternoonMeter x = sipping(4);
            x.addBee(30, 0);
            x.addBee(30, 1);
            check.same("two sips of 4", teaAfter(1, x), 1);
            AfternoonMeter y = sipping(4);
            y.addBee(20, 0);
            y.addBee(10, 0);
            check.same("three sips, one for the last", teaAfter(1, y), 0);
            check.same("what was not there is not owed", teaAfter(1, y), 9);
        });
        document.says("then what is more than the cup has room for runs over.", () -> {
            AfternoonMeter x = Meters.withTea(5, 9, 4);
            x.addBee(2, 0);
            check.same("not before it is drunk", x.pass(1), 0);
            check.same("as much as there is room for", x.tea(), 5);
            check.same("what is more", x.pass(1), 9);
            check.same("as much as before", x.tea(), 5);
        });
        document.says("If one is asleep, nothing of this is done.", () -> {
            AfternoonMeter x = Meters.withTea(5, 4, 1);
            x.pass(1);
            x.addBee(2, 1);
            x.addNap(1, 4);
            check.same("nothing runs over", x.pass(3), 0);
            check.same("nothing runs in, nothing is drunk", x.tea(), 4);
        });
        document.says("The minute is 1 greater.", () -> {
            AfternoonMeter x = Meters.withNap(1, 2);
            for (int minute = 1; minute <= 3; minute++) {
                x.pass(1);
                check.same("awake or asleep", x.minute(), minute);
            }
        });
        document.says("Measured by a bee: as many minutes as its ticks in this afternoon times its period are.", () -> {
            AfternoonMeter x = Meters.withBee(30, 29);
            x.pass(360);
            check.same("12 ticks", x.measuredBy(0), 360);
            x.begin();
            check.same("those of another afternoon", x.measuredBy(0), 0);
        });
    }

    private static void exceptions() {
        document.says("A method that throws an exception changes nothing.", () -> {
            List<Supplier<AfternoonMeter>> makers =
                List.of(Meters::fresh, Meters::busy, Meters::full, Meters::ended);
            for (Supplier<AfternoonMeter> maker : makers) {
                argumentsOutOfBounds(maker);
                noSuchStickNapOrBee(maker);
            }
            check.argument("shadowAt", Meters::busy, x -> x.shadowAt(0, 360));
            check.state("addStick", Meters::full, x -> x.addStick(30));
            check.state("addNap", Meters::full, x -> x.addNap(0, 360));
            check.state("addBee", Meters::full, x -> x.addBee(2, 0));
            check.state("pass, some are left", Meters::full, x -> x.pass(360));
            check.state("pass, none is left", Meters::ended, x -> x.pass(1));
        });
        document.says("If several exceptions apply, the one that is named first is thrown.", () -> {
            check.argument("addStick", Meters::full, x -> x.addStick(0));
            check.argument("addNap", Meters::full, x -> x.addNap(5, 5));
            check.argument("addBee, the period", Meters::full, x -> x.addBee(1, 0));
            check.argument("addBee, the beat", Meters::full, x -> x.addBee(5, 5));
            check.argument("pass, at first", Meters::fresh, x -> x.pass(361));
            check.argument("pass, at the end", Meters::ended, x -> x.pass(361));
            check.index("shadowAt", Meters::busy, x -> x.shadowAt(2, 360));
            check.index("shadowAt, without sticks", Meters::fresh, x -> x.shadowAt(-1, -1));
        });
    }

    private static void argumentsOutOfBounds(Supplier<AfternoonMeter> maker) {
        List<Consumer<AfternoonMeter>> calls = List.of(x -> x.addStick(31), x -> x.addNap(0, 361),
            x -> x.addBee(31, 0), x -> x.setTea(50, 9, 10), x -> x.setTea(50, 10, 9), x -> x.setTea(51, 9, 9),
            x -> x.pass(0), x -> x.isAsleep(360), x -> x.allShadows(360), x -> x.napsAt(360));
        for (Consumer<AfternoonMeter> call : calls) {
            check.argument("call " + calls.indexOf(call), maker, call);
        }
    }

    private static void noSuchStickNapOrBee(Supplier<AfternoonMeter> maker) {
        List<Consumer<AfternoonMeter>> calls = List.of(x -> x.giveUp(x.naps()), x -> x.shadowAt(x.sticks(), 0),
            x -> x.minuteOfShadow(x.sticks(), 0), x -> x.startOf(x.naps()), x -> x.lengthOf(x.naps()),
            x -> x.minutesAlone(x.naps()), x -> x.ticksOf(x.bees()), x -> x.measuredBy(x.bees()),
            x -> x.errorOf(x.bees()), x -> x.nextTick(x.bees()));
        for (Consumer<AfternoonMeter> call : calls) {
            check.index("call " + calls.indexOf(call), maker, call);
        }
    }
}
