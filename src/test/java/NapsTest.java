/** Promises 19 to 23: naps. */
public final class NapsTest {
    private static final Check check = new Check("NapsTest");
    private static final Sentences document = new Sentences(check, 19, 23);

    public static void main(String[] args) {
        promise19();
        promise20();
        promise21();
        promise22();
        promise23();
        document.end();
    }

    private static void promise19() {
        document.underPromise(19);
        document.says("Returns how many naps there are.", () -> {
            AfternoonMeter x = new AfternoonMeter();
            for (int i = 0; i < 8; i++) {
                check.same("naps", x.naps(), i);
                x.addNap(i, 300);
            }
            check.same("all naps", x.naps(), 8);
            x.giveUp(4);
            check.same("one less", x.naps(), 7);
            x.begin();
            check.same("in another afternoon", x.naps(), 7);
        });
    }

    private static void promise20() {
        document.underPromise(20);
        document.says("Returns its first minute.", () -> {
            AfternoonMeter x = Meters.busy();
            int[] due = {60, 90, 20};
            for (int nap = 0; nap < 3; nap++) {
                check.same("of " + nap, x.startOf(nap), due[nap]);
            }
            check.same("the first one there is", Meters.withNap(0, 360).startOf(0), 0);
            check.same("the last one there is", Meters.withNap(359, 360).startOf(0), 359);
        });
        document.says("Throws `IndexOutOfBoundsException` if there is no such nap",
            () -> Refusals.noSuchNap(check, AfternoonMeter::startOf));
    }

    private static void promise21() {
        document.underPromise(21);
        document.says("Returns how many minutes it has.", () -> {
            AfternoonMeter x = Meters.busy();
            int[] due = {40, 60, 10};
            for (int nap = 0; nap < 3; nap++) {
                check.same("of " + nap, x.lengthOf(nap), due[nap]);
            }
            check.same("all there are", Meters.withNap(0, 360).lengthOf(0), 360);
            check.same("the last one alone", Meters.withNap(359, 360).lengthOf(0), 1);
        });
        document.says("Throws `IndexOutOfBoundsException` if there is no such nap",
            () -> Refusals.noSuchNap(check, AfternoonMeter::lengthOf));
    }

    private static void promise22() {
        document.underPromise(22);
        document.says("Returns how many naps cover it.", () -> {
            AfternoonMeter x = Meters.busy();
            int[][] due = {{0, 0}, {19, 0}, {20, 1}, {29, 1}, {30, 0}, {60, 1}, {89, 1}, {90, 2}, {99, 2}, {100, 1},
                {149, 1}, {150, 0}, {359, 0}};
            for (int[] row : due) {
                check.same("at " + row[0], x.napsAt(row[0]), row[1]);
            }
            x.giveUp(1);
            check.same("one less", x.napsAt(95), 1);
            AfternoonMeter eight = new AfternoonMeter();
            for (int i = 0; i < 8; i++) {
                eight.addNap(359 - i, 360);
            }
            check.same("all of them", eight.napsAt(359), 8);
            check.same("one of them", eight.napsAt(352), 1);
        });
        document.says("Throws `IllegalArgumentException` if minute is not 0 to 359", () -> {
            Refusals.noMinute(check, AfternoonMeter::napsAt);
            check.same("minute 0", Meters.ended().napsAt(0), 1);
            check.same("minute 359", Meters.ended().napsAt(359), 0);
        });
    }

    private static void promise23() {
        document.underPromise(23);
        document.says("Returns how many minutes it covers that no other one does.", () -> {
            AfternoonMeter x = Meters.busy();
            check.same("overlapped at its end", x.minutesAlone(0), 30);
            check.same("overlapped at its start", x.minutesAlone(1), 50);
            check.same("not overlapped", x.minutesAlone(2), 10);
            x.addNap(70, 72);
            check.same("within another one", x.minutesAlone(3), 0);
            check.same("around another one", x.minutesAlone(0), 28);
            x.addNap(20, 30);
            check.same("the same minutes", x.minutesAlone(2), 0);
            x.giveUp(2);
            check.same("not the same any more", x.minutesAlone(3), 10);
            x.addNap(0, 360);
            check.same("of the whole afternoon, whichever minute is now", x.minutesAlone(4), 360 - 90 - 10);
            check.same("all there are", Meters.withNap(0, 360).minutesAlone(0), 360);
        });
        document.says("Throws `IndexOutOfBoundsException` if there is no such nap",
            () -> Refusals.noSuchNap(check, AfternoonMeter::minutesAlone));
    }
}
