import java.util.ArrayList;
import java.util.List;

/** The document once more, as plainly as it is said: nothing is kept but what the 'Terms' name, all is counted anew. */
final class PlainModel {
    final List<Integer> sticks = new ArrayList<>();
    final List<int[]> naps = new ArrayList<>();
    final List<int[]> bees = new ArrayList<>();
    int room = 20;
    int rate = 1;
    int sip = 3;
    int tea;
    int spilt;
    int minute;
    int afternoon;

    /** The same, to be tried out. */
    PlainModel twin() {
        PlainModel twin = new PlainModel();
        twin.sticks.addAll(sticks);
        twin.naps.addAll(naps);
        twin.bees.addAll(bees);
        twin.room = room;
        twin.rate = rate;
        twin.sip = sip;
        twin.tea = tea;
        twin.spilt = spilt;
        twin.minute = minute;
        twin.afternoon = afternoon;
        return twin;
    }

    int napsAt(int m) {
        int count = 0;
        for (int[] nap : naps) {
            if (nap[0] <= m && m < nap[1]) {
                count++;
            }
        }
        return count;
    }

    boolean ticks(int[] bee, int m) {
        return m % bee[0] == bee[1] && napsAt(m) == 0;
    }

    int awakeBetween(int from, int to) {
        int count = 0;
        for (int m = from; m < to; m++) {
            if (napsAt(m) == 0) {
                count++;
            }
        }
        return count;
    }

    int longestAwake() {
        int longest = 0;
        for (int from = 0; from < 360; from++) {
            int to = from;
            while (to < 360 && napsAt(to) == 0) {
                to++;
            }
            longest = Math.max(longest, to - from);
        }
        return longest;
    }

    int ticksOf(int bee) {
        int count = 0;
        for (int m = 0; m < minute; m++) {
            if (ticks(bees.get(bee), m)) {
                count++;
            }
        }
        return count;
    }

    int measuredBy(int bee) {
        return ticksOf(bee) * bees.get(bee)[0];
    }

    int errorOf(int bee) {
        return measuredBy(bee) - awakeBetween(0, minute);
    }

    int bestBee() {
        int best = -1;
        for (int bee = bees.size() - 1; bee >= 0; bee--) {
            if (best < 0 || Math.abs(errorOf(bee)) <= Math.abs(errorOf(best))) {
                best = bee;
            }
        }
        return best;
    }

    int nextTick(int bee) {
        for (int m = minute; m < 360; m++) {
            if (ticks(bees.get(bee), m)) {
                return m;
            }
        }
        return -1;
    }

    int runOver() {
        int over = Math.max(0, tea - room);
        tea -= over;
        spilt += over;
        return over;
    }

    int oneMinute() {
        int over = 0;
        if (napsAt(minute) == 0) {
            tea += rate;
            for (int[] bee : bees) {
                if (ticks(bee, minute)) {
                    tea -= Math.min(sip, tea);
                }
            }
            over = runOver();
        }
        minute++;
        return over;
    }

    int pass(int minutes) {
        int over = 0;
        for (int i = 0; i < minutes; i++) {
            over += oneMinute();
        }
        return over;
    }

    int spiltAtEnd() {
        PlainModel twin = twin();
        twin.pass(360 - minute);
        return twin.spilt;
    }

    int minuteOfSpill() {
        PlainModel twin = twin();
        while (twin.minute < 360) {
            if (twin.oneMinute() > 0) {
                return twin.minute - 1;
            }
        }
        return -1;
    }

    int safeRate() {
        int safe = 0;
        for (int tried = 0; tried <= 9; tried++) {
            PlainModel twin = twin();
            twin.rate = tried;
            if (twin.pass(360 - minute) == 0) {
                safe = tried;
            }
        }
        return safe;
    }

    int bestToGiveUp() {
        int best = -1;
        int most = -1;
        for (int nap = 0; nap < naps.size(); nap++) {
            PlainModel twin = twin();
            twin.naps.remove(nap);
            int awake = twin.awakeBetween(0, 360);
            if (awake > most) {
                best = nap;
                most = awake;
            }
        }
        return best;
    }

    int minutesAlone(int nap) {
        int count = 0;
        for (int m = naps.get(nap)[0]; m < naps.get(nap)[1]; m++) {
            if (napsAt(m) == 1) {
                count++;
            }
        }
        return count;
    }

    int shadowAt(int stick, int m) {
        return sticks.get(stick) * (60 + m) / 120;
    }

    int minuteOfShadow(int stick, int length) {
        for (int m = 0; m < 360; m++) {
            if (shadowAt(stick, m) >= length) {
                return m;
            }
        }
        return -1;
    }

    int allShadows(int m) {
        int sum = 0;
        for (int stick = 0; stick < sticks.size(); stick++) {
            sum += shadowAt(stick, m);
        }
        return sum;
    }

    double meanLastShadow() {
        return sticks.isEmpty() ? 0 : (double) allShadows(359) / sticks.size();
    }

    long digest() {
        List<Integer> x = new ArrayList<>(List.of(afternoon, minute, awakeBetween(0, minute), longestAwake(),
            sticks.size(), naps.size(), bees.size(), tea, spilt));
        x.addAll(List.of(spiltAtEnd(), safeRate(), bestToGiveUp(), bestBee()));
        for (int stick = 0; stick < sticks.size(); stick++) {
            x.add(shadowAt(stick, 100));
        }
        for (int nap = 0; nap < naps.size(); nap++) {
            x.addAll(List.of(naps.get(nap)[0], naps.get(nap)[1] - naps.get(nap)[0], minutesAlone(nap)));
        }
        for (int bee = 0; bee < bees.size(); bee++) {
            x.addAll(List.of(ticksOf(bee), measuredBy(bee), nextTick(bee)));
        }
        long d = 2083;
        for (int number : x) {
            d = d * 31 + number;
        }
        return d;
    }
}
