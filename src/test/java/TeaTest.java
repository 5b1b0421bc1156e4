import java.util.function.Consumer;

/** Promises 30 to 34: the tea, and what would become of it. */
public final class TeaTest {
    private static final Check check = new Check("TeaTest");
    private static final Sentences document = new Sentences(check, 30, 34);

    public static void main(String[] args) {
        promises30And31();
        promise32();
        promise33();
        promise34();
        document.end();
    }

    private static void promises30And31() {
        document.underPromise(30);
        document.says("Returns how much tea is in the cup.", () -> {
            AfternoonMeter x = Meters.withTea(10, 4, 2);
            int[] due = {0, 4, 8, 10, 10};
            for (int tea : due) {
                check.same("in minute " + x.minute(), x.tea(), tea);
                x.pass(1);
            }
            x.setTea(3, 4, 2);
            check.same("a smaller cup", x.tea(), 3);
            x.addNap(0, 360);
            x.pass(100);
            check.same("asleep", x.tea(), 3);
            x.begin();
            check.same("in another afternoon", x.tea(), 0);
        });
        document.underPromise(31);
        document.says("Returns how much ran over in this afternoon.", () -> {
            AfternoonMeter x = Meters.withTea(10, 4, 2);
            int[] due = {0, 0, 0, 2, 6};
            for (int spilt : due) {
                check.same("in minute " + x.minute(), x.spilt(), spilt);
                x.pass(1);
            }
            x.setTea(3, 4, 2);
            check.same("a smaller cup", x.spilt(), 17);
            x.addNap(0, 360);
            x.pass(100);
            check.same("asleep", x.spilt(), 17);
            x.begin();
            check.same("in another afternoon", x.spilt(), 0);
        });
    }

    private static void promise32() {
        document.underPromise(32);
        document.says("Returns how much will have run over at the end of the afternoon, "
            + "if nothing else is done", () -> {
            AfternoonMeter x = new AfternoonMeter();
            check.same("at first", x.spiltAtEnd(), 340);
            x.addNap(300, 360);
            check.same("not asleep", x.spiltAtEnd(), 280);
            x.pass(30);
            check.same("what ran over counts", x.spiltAtEnd(), 280);
            x.addBee(2, 0);
            check.same("with a bee", x.spiltAtEnd(), 10);
            x.setTea(5, 1, 0);
            check.same("a smaller cup, no sip", x.spiltAtEnd(), 10 + 15 + 270);
            x.pass(330);
            check.same("at the end", x.spiltAtEnd(), x.spilt());
            check.same("at the end, so much", x.spiltAtEnd(), 295);
            check.same("without rate", Meters.withTea(1, 0, 0).spiltAtEnd(), 0);
            check.same("the most", Meters.withTea(1, 9, 0).spiltAtEnd(), 360 * 9 - 1);
        });
        document.says("(nothing is changed).", () -> changesNothing(AfternoonMeter::spiltAtEnd));
    }

    private static void changesNothing(Consumer<AfternoonMeter> question) {
        check.changesNothing("a new one", Meters::fresh, question);
        check.changesNothing("a busy one", Meters::busy, question);
        check.changesNothing("a full one", Meters::full, question);
        check.changesNothing("one at its end", Meters::ended, question);
    }

    private static void promise33() {
        document.underPromise(33);
        document.says("Returns the first minute, from that of now on, in which some tea runs over, "
            + "if nothing else is done", () -> {
            AfternoonMeter x = new AfternoonMeter();
            check.same("at first", x.minuteOfSpill(), 20);
            x.pass(19);
            check.same("one before", x.minuteOfSpill(), 20);
            x.pass(1);
            check.same("in the minute of now", x.minuteOfSpill(), 20);
            x.pass(5);
            check.same("again and again", x.minuteOfSpill(), 25);
            x.addNap(25, 40);
            check.same("when awake", x.minuteOfSpill(), 40);
            x.addBee(2, 0);
            x.setTea(20, 3, 3);
            check.same("a bee drinks as much in each other minute", x.minuteOfSpill(), 41);
            check.same("at once", Meters.withTea(8, 9, 0).minuteOfSpill(), 0);
            check.same("a full cup is not over", Meters.withTea(9, 9, 0).minuteOfSpill(), 1);
            AfternoonMeter last = Meters.withTea(50, 0, 0);
            last.pass(359);
            last.setTea(1, 2, 0);
            check.same("in the last minute", last.minuteOfSpill(), 359);
        });
        document.says("-1 if none does in this afternoon", () -> {
            check.same("without rate", Meters.withTea(1, 0, 0).minuteOfSpill(), -1);
            check.same("asleep all the time", Meters.withNap(0, 360).minuteOfSpill(), -1);
            check.same("at the end", Meters.after(360).minuteOfSpill(), -1);
            AfternoonMeter x = Meters.after(25);
            x.addBee(2, 1);
            check.same("a bee drinks", x.minuteOfSpill(), -1);
            check.same("full in the last minute", awakeFor(1, 1).minuteOfSpill(), -1);
        });
        document.says("(nothing is changed).", () -> changesNothing(AfternoonMeter::minuteOfSpill));
    }

    private static void promise34() {
        document.underPromise(34);
        document.says("Returns the greatest rate, 0 to 9, "
            + "with which no tea runs over from now on in this afternoon", () -> {
            check.same("asleep", Meters.withNap(0, 360).safeRate(), 9);
            check.same("awake once", awakeFor(1, 7).safeRate(), 7);
            check.same("awake once, a greater cup", awakeFor(1, 9).safeRate(), 9);
            check.same("awake once, a still greater cup", awakeFor(1, 50).safeRate(), 9);
            check.same("awake twice", awakeFor(2, 11).safeRate(), 5);
            AfternoonMeter x = Meters.after(360);
            check.same("what ran over does not count", x.safeRate(), 9);
            x.begin();
            check.same("in another afternoon", x.safeRate(), 0);
        });
        document.says("if it was set now, and nothing else is done", () -> {
            AfternoonMeter x = Meters.withTea(20, 9, 6);
            x.addBee(2, 1);
            check.same("with a bee", x.safeRate(), 3);
            x.addBee(3, 0);
            check.same("with another one", x.safeRate(), 5);
            x.pass(100);
            check.same("17 are in the cup", x.tea(), 17);
            check.same("with what is in the cup", x.safeRate(), 3);
        });
        document.says("(with 0 none does", () -> {
            check.same("at first", Meters.fresh().safeRate(), 0);
            check.same("awake ten times", awakeFor(10, 9).safeRate(), 0);
            check.same("a full cup", Meters.after(20).safeRate(), 0);
            AfternoonMeter x = Meters.after(30);
            x.setTea(1, 9, 0);
            check.same("a full cup, a smaller one", x.safeRate(), 0);
        });
        document.says("nothing is changed).", () -> changesNothing(AfternoonMeter::safeRate));
    }

    /** Awake in so many minutes at the end of the afternoon, with so much room. */
    private static AfternoonMeter awakeFor(int minutes, int room) {
        AfternoonMeter x = Meters.withNap(0, 360 - minutes);
        x.setTea(room, 1, 3);
        return x;
    }
}
