/** A machine that measures afternoons. */
public final class AfternoonMeter {
    private static final int MINUTES = 360;
    private static final int LAST_MINUTE = 359;
    private static final int MOST_STICKS = 4;
    private static final int MOST_HEIGHT = 30;
    private static final int MOST_NAPS = 8;
    private static final int MOST_BEES = 6;
    private static final int LEAST_PERIOD = 2;
    private static final int MOST_PERIOD = 30;
    private static final int MOST_ROOM = 50;
    private static final int MOST_RATE = 9;
    private static final int MOST_SIP = 9;
    private static final int NONE = -1;

    private final int[] heights;
    private int stickCount;

    private final int[] napStarts;
    private final int[] napEnds;
    private int napCount;
    // How many naps cover each minute: kept up to date so that no question needs a walk over all naps.
    private final int[] napsOver;

    private final int[] periods;
    private final int[] beats;
    private int beeCount;
    // How many bees have their beat in each minute, whether one is awake in it or not.
    private final int[] beesOn;

    private int room;
    private int rate;
    private int sip;
    private int inCup;
    private int ranOver;

    private int now;
    private int afternoonNumber;

    public AfternoonMeter() {
        heights = new int[MOST_STICKS];
        napStarts = new int[MOST_NAPS];
        napEnds = new int[MOST_NAPS];
        napsOver = new int[MINUTES];
        periods = new int[MOST_BEES];
        beats = new int[MOST_BEES];
        beesOn = new int[MINUTES];
        room = 20;
        rate = 1;
        sip = 3;
    }

    // ---- what is set up

    public int addStick(int height) throws IllegalArgumentException, IllegalStateException {
        if (height < 1 || height > MOST_HEIGHT) {
            throw new IllegalArgumentException("a height is 1 to 30");
        }
        if (stickCount >= MOST_STICKS) {
            throw new IllegalStateException("there are 4 sticks");
        }
        int stick = stickCount;
        heights[stick] = height;
        stickCount++;
        return stick;
    }

    public int addNap(int from, int to) throws IllegalArgumentException, IllegalStateException {
        if (from < 0 || to > MINUTES || to <= from) {
            throw new IllegalArgumentException("a nap goes from a minute, 0 or later, to a greater one, 360 at most");
        }
        if (napCount >= MOST_NAPS) {
            throw new IllegalStateException("there are 8 naps");
        }
        int nap = napCount;
        napStarts[nap] = from;
        napEnds[nap] = to;
        napCount++;
        changeCover(nap, 1);
        return nap;
    }

    public int giveUp(int nap) throws IndexOutOfBoundsException {
        checkNap(nap);
        changeCover(nap, -1);
        napCount--;
        for (int i = nap; i < napCount; i++) {
            napStarts[i] = napStarts[i + 1];
            napEnds[i] = napEnds[i + 1];
        }
        return napCount;
    }

    public int addBee(int period, int beat) throws IllegalArgumentException, IllegalStateException {
        if (period < LEAST_PERIOD || period > MOST_PERIOD || beat < 0 || beat >= period) {
            throw new IllegalArgumentException("a period is 2 to 30, and a beat 0 to the period less 1");
        }
        if (beeCount >= MOST_BEES) {
            throw new IllegalStateException("there are 6 bees");
        }
        int bee = beeCount;
        periods[bee] = period;
        beats[bee] = beat;
        beeCount++;
        for (int m = 0; m < MINUTES; m++) {
            if (hasBeatIn(bee, m)) {
                beesOn[m]++;
            }
        }
        return bee;
    }

    public int setTea(int room, int rate, int sip) throws IllegalArgumentException {
        if (room < 1 || room > MOST_ROOM) {
            throw new IllegalArgumentException("a room is 1 to 50");
        }
        if (rate < 0 || rate > MOST_RATE) {
            throw new IllegalArgumentException("a rate is 0 to 9");
        }
        if (sip < 0 || sip > MOST_SIP) {
            throw new IllegalArgumentException("a sip is 0 to 9");
        }
        this.room = room;
        this.rate = rate;
        this.sip = sip;
        return pourInto(inCup);
    }

    public int pass(int minutes) throws IllegalArgumentException, IllegalStateException {
        if (minutes < 1 || minutes > MINUTES) {
            throw new IllegalArgumentException("minutes that go by are 1 to 360");
        }
        if (minutes > MINUTES - now) {
            throw new IllegalStateException("the afternoon has fewer minutes left");
        }
        int over = 0;
        int end = now + minutes;
        while (now < end) {
            over += pourInto(contentAfter(now, inCup, rate));
            now++;
        }
        return over;
    }

    public int begin() {
        now = 0;
        inCup = 0;
        ranOver = 0;
        afternoonNumber++;
        return afternoonNumber;
    }

    // ---- the afternoon

    public int afternoon() {
        return afternoonNumber;
    }

    public int minute() {
        return now;
    }

    public boolean isAsleep(int minute) throws IllegalArgumentException {
        checkMinute(minute);
        return napsOver[minute] > 0;
    }

    public int awakeMinutes() {
        int awake = 0;
        for (int m = 0; m < now; m++) {
            if (napsOver[m] == 0) {
                awake++;
            }
        }
        return awake;
    }

    public int sleptMinutes() {
        return now - awakeMinutes();
    }

    public int longestAwake() {
        int longest = 0;
        int stretch = 0;
        for (int m = 0; m < MINUTES; m++) {
            stretch = napsOver[m] == 0 ? stretch + 1 : 0;
            longest = Math.max(longest, stretch);
        }
        return longest;
    }

    // ---- shadows

    public int sticks() {
        return stickCount;
    }

    public int shadowAt(int stick, int minute) throws IndexOutOfBoundsException, IllegalArgumentException {
        checkStick(stick);
        checkMinute(minute);
        return shadowOf(stick, minute);
    }

    public int minuteOfShadow(int stick, int length) throws IndexOutOfBoundsException {
        checkStick(stick);
        for (int m = 0; m < MINUTES; m++) {
            if (shadowOf(stick, m) >= length) {
                return m;
            }
        }
        return NONE;
    }

    public int allShadows(int minute) throws IllegalArgumentException {
        checkMinute(minute);
        return sumOfShadows(minute);
    }

    // ---- naps

    public int naps() {
        return napCount;
    }

    public int startOf(int nap) throws IndexOutOfBoundsException {
        checkNap(nap);
        return napStarts[nap];
    }

    public int lengthOf(int nap) throws IndexOutOfBoundsException {
        checkNap(nap);
        return napEnds[nap] - napStarts[nap];
    }

    public int napsAt(int minute) throws IllegalArgumentException {
        checkMinute(minute);
        return napsOver[minute];
    }

    public int minutesAlone(int nap) throws IndexOutOfBoundsException {
        checkNap(nap);
        return countAlone(nap);
    }

    // ---- bees

    public int bees() {
        return beeCount;
    }

    public int ticksOf(int bee) throws IndexOutOfBoundsException {
        checkBee(bee);
        return countTicks(bee);
    }

    public int measuredBy(int bee) throws IndexOutOfBoundsException {
        checkBee(bee);
        return countTicks(bee) * periods[bee];
    }

    public int errorOf(int bee) throws IndexOutOfBoundsException {
        return measuredBy(bee) - awakeMinutes();
    }

    public int bestBee() {
        int best = NONE;
        int leastError = 0;
        for (int bee = 0; bee < beeCount; bee++) {
            int error = Math.abs(errorOf(bee));
            if (best == NONE || error < leastError) {
                best = bee;
                leastError = error;
            }
        }
        return best;
    }

    public int nextTick(int bee) throws IndexOutOfBoundsException {
        checkBee(bee);
        for (int m = now; m < MINUTES; m++) {
            if (ticksIn(bee, m)) {
                return m;
            }
        }
        return NONE;
    }

    // ---- tea

    public int tea() {
        return inCup;
    }

    public int spilt() {
        return ranOver;
    }

    // ---- what would be

    public int spiltAtEnd() {
        int over = ranOver;
        int content = inCup;
        for (int m = now; m < MINUTES; m++) {
            content = contentAfter(m, content, rate);
            int tooMuch = excess(content);
            over += tooMuch;
            content -= tooMuch;
        }
        return over;
    }

    public int minuteOfSpill() {
        return firstSpillWith(rate);
    }

    public int safeRate() {
        int safe = MOST_RATE;
        while (safe > 0 && firstSpillWith(safe) != NONE) {
            safe--;
        }
        return safe;
    }

    // Giving a nap up wins just the minutes that it covers alone.
    public int bestToGiveUp() {
        int best = NONE;
        int mostAlone = 0;
        for (int nap = 0; nap < napCount; nap++) {
            int alone = countAlone(nap);
            if (best == NONE || alone > mostAlone) {
                best = nap;
                mostAlone = alone;
            }
        }
        return best;
    }

    public double meanLastShadow() {
        if (stickCount == 0) {
            return 0;
        }
        return (double) sumOfShadows(LAST_MINUTE) / stickCount;
    }

    public long digest() {
        long d = 2083;
        d = d * 31 + afternoonNumber;
        d = d * 31 + now;
        d = d * 31 + awakeMinutes();
        d = d * 31 + longestAwake();
        d = d * 31 + stickCount;
        d = d * 31 + napCount;
        d = d * 31 + beeCount;
        d = d * 31 + inCup;
        d = d * 31 + ranOver;
        d = d * 31 + spiltAtEnd();
        d = d * 31 + safeRate();
        d = d * 31 + bestToGiveUp();
        d = d * 31 + bestBee();
        return withBees(withNaps(withSticks(d)));
    }

    // ---- what the calls share

    private void checkMinute(int minute) {
        if (minute < 0 || minute >= MINUTES) {
            throw new IllegalArgumentException("a minute is 0 to 359");
        }
    }

    private void checkStick(int stick) {
        if (stick < 0 || stick >= stickCount) {
            throw new IndexOutOfBoundsException("there is no such stick");
        }
    }

    private void checkNap(int nap) {
        if (nap < 0 || nap >= napCount) {
            throw new IndexOutOfBoundsException("there is no such nap");
        }
    }

    private void checkBee(int bee) {
        if (bee < 0 || bee >= beeCount) {
            throw new IndexOutOfBoundsException("there is no such bee");
        }
    }

    private boolean covers(int nap, int minute) {
        return napStarts[nap] <= minute && minute < napEnds[nap];
    }

    private void changeCover(int nap, int by) {
        for (int m = 0; m < MINUTES; m++) {
            if (covers(nap, m)) {
                napsOver[m] += by;
            }
        }
    }

    private int countAlone(int nap) {
        int alone = 0;
        for (int m = 0; m < MINUTES; m++) {
            if (napsOver[m] == 1 && covers(nap, m)) {
                alone++;
            }
        }
        return alone;
    }

    private int shadowOf(int stick, int minute) {
        return heights[stick] * (60 + minute) / 120;
    }

    private int sumOfShadows(int minute) {
        int sum = 0;
        for (int stick = 0; stick < stickCount; stick++) {
            sum += shadowOf(stick, minute);
        }
        return sum;
    }

    private boolean hasBeatIn(int bee, int minute) {
        int period = periods[bee];
        return period > 0 && minute % period == beats[bee];
    }

    private boolean ticksIn(int bee, int minute) {
        return napsOver[minute] == 0 && hasBeatIn(bee, minute);
    }

    private int countTicks(int bee) {
        int ticks = 0;
        for (int m = 0; m < now; m++) {
            if (ticksIn(bee, m)) {
                ticks++;
            }
        }
        return ticks;
    }

    // The sips of all bees are taken at once: one after the other, each down to nothing at most, leaves the same.
    private int contentAfter(int minute, int content, int rateThen) {
        if (napsOver[minute] > 0) {
            return content;
        }
        return Math.max(0, content + rateThen - sip * beesOn[minute]);
    }

    private int excess(int content) {
        return Math.max(0, content - room);
    }

    private int pourInto(int content) {
        int tooMuch = excess(content);
        inCup = content - tooMuch;
        ranOver += tooMuch;
        return tooMuch;
    }

    // Up to the first spill nothing has run over, so there is no excess to take away.
    private int firstSpillWith(int rateThen) {
        int content = inCup;
        for (int m = now; m < MINUTES; m++) {
            content = contentAfter(m, content, rateThen);
            if (excess(content) > 0) {
                return m;
            }
        }
        return NONE;
    }

    private long withSticks(long start) {
        long d = start;
        for (int stick = 0; stick < stickCount; stick++) {
            d = d * 31 + shadowOf(stick, 100);
        }
        return d;
    }

    private long withNaps(long start) {
        long d = start;
        for (int nap = 0; nap < napCount; nap++) {
            d = d * 31 + napStarts[nap];
            d = d * 31 + (napEnds[nap] - napStarts[nap]);
            d = d * 31 + countAlone(nap);
        }
        return d;
    }

    private long withBees(long start) {
        long d = start;
        for (int bee = 0; bee < beeCount; bee++) {
            d = d * 31 + countTicks(bee);
            d = d * 31 + measuredBy(bee);
            d = d * 31 + nextTick(bee);
        }
        return d;
    }
}
