import java.util.ArrayList;
import java.util.List;
import java.util.function.Consumer;
import java.util.function.Supplier;

/** Compares answers with those that are due, prints the wrong ones, and counts both. */
final class Check {
    private final String name;
    private String about = "";
    private int right;
    private int wrong;

    Check(String name) {
        this.name = name;
    }

    /** What the comparisons from now on are about; it is printed with each wrong answer. */
    void about(String what) {
        about = what + ": ";
    }

    int made() {
        return right + wrong;
    }

    void same(String what, Object got, Object due) {
        if (got.equals(due)) {
            right++;
        } else {
            wrong++;
            System.out.println(name + ": " + about + what + " answered " + got + ", due is " + due);
        }
    }

    /** The call must throw just that exception, and leave the object as one that never got the call. */
    void refused(String what, Class<?> due, Supplier<AfternoonMeter> maker, Consumer<AfternoonMeter> call) {
        AfternoonMeter meter = maker.get();
        Object thrown = "nothing thrown";
        try {
            call.accept(meter);
        } catch (RuntimeException e) {
            thrown = e.getClass();
        }
        same(what, thrown, due);
        same(what + ", what is left behind", behaviour(meter), behaviour(maker.get()));
    }

    void argument(String what, Supplier<AfternoonMeter> maker, Consumer<AfternoonMeter> call) {
        refused(what, IllegalArgumentException.class, maker, call);
    }

    void state(String what, Supplier<AfternoonMeter> maker, Consumer<AfternoonMeter> call) {
        refused(what, IllegalStateException.class, maker, call);
    }

    void index(String what, Supplier<AfternoonMeter> maker, Consumer<AfternoonMeter> call) {
        refused(what, IndexOutOfBoundsException.class, maker, call);
    }

    /** The question must leave the object as one that never got it. */
    void changesNothing(String what, Supplier<AfternoonMeter> maker, Consumer<AfternoonMeter> question) {
        AfternoonMeter meter = maker.get();
        question.accept(meter);
        same(what + ", what is left behind", behaviour(meter), behaviour(maker.get()));
    }

    void end() {
        System.out.println(name + ": " + right + " answers right, " + wrong + " wrong");
        if (wrong > 0 || right == 0) {
            System.exit(1);
        }
    }

    /** What an object answers from now on; it uses the object up, in some 150 calls. */
    static List<Object> behaviour(AfternoonMeter x) {
        List<Object> all = new ArrayList<>();
        questions(x, all);
        if (x.minute() < 360) {
            all.add(x.pass(1));
            questions(x, all);
        }
        if (x.minute() < 360) {
            all.add(x.pass(360 - x.minute()));
            questions(x, all);
        }
        all.add(x.begin());
        all.add(x.pass(200));
        questions(x, all);
        while (x.naps() > 0) {
            all.add(x.giveUp(0));
        }
        questions(x, all);
        return all;
    }

    private static void questions(AfternoonMeter x, List<Object> all) {
        all.add(x.digest());
        all.add(x.sleptMinutes());
        all.add(x.minuteOfSpill());
        all.add(x.meanLastShadow());
        all.add(x.allShadows(359));
        for (int m = 0; m < 360; m += 30) {
            all.add(x.napsAt(m));
        }
        for (int bee = 0; bee < x.bees(); bee++) {
            all.add(x.errorOf(bee));
        }
    }
}
