/**
 * A room told in letters: sleepers, the clocks that ring for them, tasks ahead of a bus, and the
 * mornings that come of it. The document ../shared/DOC.md says what each method must do; the words
 * in capitals there are the names here.
 */
public final class NineMinutesMore {
    private static final int MINUTES = 300;
    /** UP of who is never so, and SET of a clock that never rings: one behind the last MINUTE. */
    private static final int NEVER = MINUTES;
    private static final int LAST_DAY = 6;
    private static final int FIRST_FREE_DAY = 5;
    private static final int MOST_TIRED = 9;
    private static final int MOST_FIRM = 99;
    private static final int MOST_LEAN = 30;
    private static final int MOST_EVERY = 20;
    private static final int MOST_BACK = 60;
    private static final int MOST_OFTEN = 9;
    private static final int MOST_MOMENT = 30;
    private static final int MOST_LOTS = 30;
    private static final int MOST_SLEEPERS = 4;
    private static final int MOST_CLOCKS = 4;
    private static final int MOST_TASKS = 6;
    private static final int MOST_LETTERS = 96;
    private static final int MOST_ROW = 8;
    private static final int MOST_SIGN = 255;
    private static final int WITHOUT_SIGN = 0x7FFFFFFF;
    /** The bits of all TASKS that there can be. */
    private static final int ALL_TASKS = (1 << MOST_TASKS) - 1;
    /** In place of the one in the other bed, where none is asked for. */
    private static final int NO_LISTENER = -1;

    /** Where a sleeper's, a clock's and a task's numbers stand in their rows: as "what" asks. */
    private static final int KIND = 0;
    private static final int ROUND = 1;
    private static final int DEEP = 2;
    private static final int LEAN = 3;
    private static final int SLEEPER_PARTS = 4;
    private static final int OWNER = 1;
    private static final int SET = 2;
    private static final int EVERY = 3;
    private static final int LOUD = 4;
    private static final int CLOCK_PARTS = 5;
    private static final int LONG = 0;
    private static final int WORTH = 1;
    private static final int TASK_PARTS = 2;

    /** The letters of KINDS, each at the place of its number. */
    private static final String SLEEPER_KINDS = "sldobn";
    private static final String CLOCK_KINDS = "cfprqw";
    private static final int LIGHT = 1;
    private static final int DEEP_ONE = 2;
    private static final int OWL = 3;
    private static final int BABY = 4;
    private static final int NURSE = 5;
    private static final int FAR = 1;
    private static final int PAIL = 2;
    private static final int RAY = 3;
    private static final int QUICK = 4;
    private static final int WALKER = 5;

    /** The least and the greatest of each number of a STATEMENT, in the order of its row. */
    private static final int[] SLEEPER_LEAST = {0, 20, 0, 0};
    private static final int[] SLEEPER_MOST = {5, 99, 20, 30};
    private static final int[] CLOCK_LEAST = {0, 0, 0, 1, 0};
    private static final int[] CLOCK_MOST = {5, 3, 299, 20, 30};
    private static final int[] TASK_LEAST = {1, 0};
    private static final int[] TASK_MOST = {60, 99};
    private static final int[] BUS_LEAST = {0};
    private static final int[] BUS_MOST = {299};
    private static final int[] FIRM_LEAST = {0};
    private static final int[] FIRM_MOST = {99};

    private static final int NONE = -9;
    private static final int FINE = 0;
    private static final int NOBODY = -1;
    private static final int OTHER = -2;
    private static final int STATE = -3;
    private static final int BELOW = -4;
    private static final int ABOVE = -6;
    private static final int REFUSAL_NUMBERS = 6;
    private static final int REFUSALS_FROM = 10;
    /** Answers that may be below 0 tell a refusal as this less its number. */
    private static final int REFUSED_VALUE = 1000000000;

    private final Room now = new Room();
    /** What is only thought of happens here, so that what is stays as it is. */
    private final Room mind = new Room();
    private final Room kept = new Room();
    private boolean hasKept = false;
    private final Morning morning = new Morning();
    private final Text text = new Text();
    private final int[] told = new int[MOST_ROW];
    private int toldLength = 0;
    private final int[] refusals = new int[REFUSAL_NUMBERS + 1];

    public NineMinutesMore() {
    }

    public int letter(int c) {
        int no = outside(c, 0, MOST_SIGN);
        if (no == FINE && text.isFull()) {
            no = ABOVE;
        }
        return no != FINE ? refuse(no) : text.add((char) c);
    }

    public int room() {
        mind.copyFrom(now);
        int answer = text.tellInto(mind);
        if (answer > 0) {
            now.copyFrom(mind);
        }
        text.forget();
        return answer;
    }

    public int sleeper(int sleeper, int what) {
        int no = first(noSleeper(sleeper), otherThan(what, SLEEPER_PARTS));
        return no != FINE ? refuse(no) : now.sleepers[sleeper].partOf(what);
    }

    public int clock(int clock, int what) {
        int no = first(noClock(clock), otherThan(what, CLOCK_PARTS));
        return no != FINE ? refuse(no) : now.clocks[clock].partOf(what);
    }

    public int task(int task, int what) {
        int no = first(noTask(task), otherThan(what, TASK_PARTS));
        return no != FINE ? refuse(no) : now.tasks[task].partOf(what);
    }

    public int set(int clock, int v) {
        int no = first(noClock(clock), outside(v, 0, MINUTES - 1));
        return no != FINE ? refuse(no) : now.clocks[clock].put(SET, v);
    }

    public int every(int clock, int v) {
        int no = first(noClock(clock), outside(v, 1, MOST_EVERY));
        return no != FINE ? refuse(no) : now.clocks[clock].put(EVERY, v);
    }

    public int firm(int v) {
        int no = outside(v, 0, MOST_FIRM);
        if (no != FINE) {
            return refuse(no);
        }
        int was = now.firm;
        now.firm = v;
        return was;
    }

    public int bus(int v) {
        int no = outside(v, 0, MINUTES - 1);
        if (no != FINE) {
            return refuse(no);
        }
        int was = now.bus;
        now.bus = v;
        return was;
    }

    public int tired(int v) {
        int no = outside(v, 0, MOST_TIRED);
        if (no != FINE) {
            return refuse(no);
        }
        int was = now.tired;
        now.tired = v;
        return was;
    }

    public int night() {
        if (now.sleeperCount == 0) {
            return refuse(STATE);
        }
        morning.live(now, 0, NO_LISTENER);
        now.passDay(morning.pressed);
        return now.day;
    }

    public int depth(int sleeper, int minute) {
        int no = first(noSleeper(sleeper), outside(minute, 0, MINUTES - 1));
        return no != FINE ? refuse(no) : now.depthOf(sleeper, minute);
    }

    public int up(int sleeper) {
        int no = noSleeper(sleeper);
        if (no == FINE) {
            morning.live(now, sleeper, NO_LISTENER);
        }
        return no != FINE ? refuse(no) : morning.upAt;
    }

    public int presses(int sleeper) {
        int no = noSleeper(sleeper);
        if (no == FINE) {
            morning.live(now, sleeper, NO_LISTENER);
        }
        return no != FINE ? refuse(no) : morning.pressed;
    }

    public int slept(int sleeper) {
        int no = noSleeper(sleeper);
        if (no == FINE) {
            morning.live(now, sleeper, NO_LISTENER);
        }
        return no != FINE ? refuse(no) : morning.sleptThrough;
    }

    public int done(int minute, int what) {
        int no = first(outside(minute, 0, NEVER), otherThan(what, 2));
        if (no != FINE) {
            return refuse(no);
        }
        int bits = now.doneBits(minute);
        return what == 0 ? bits : now.sumOf(bits, WORTH);
    }

    public int value(int sleeper) {
        int no = noSleeper(sleeper);
        return no != FINE ? refuseValue(no) : valueOf(now, sleeper);
    }

    public int cost(int minute) {
        int no = outside(minute, 0, MINUTES - 1);
        return no != FINE ? refuseValue(no) : now.worthDone(minute) - now.worthDone(minute + 1);
    }

    public int evening(int clock, int what) {
        int no = first(noClock(clock), otherThan(what, 4));
        if (no != FINE) {
            return refuseValue(no);
        }
        boolean wantsValue = what % 2 == 1;
        return what < 2
            ? bestOf(clock, SET, 0, MINUTES - 1, wantsValue)
            : bestOf(clock, EVERY, 1, MOST_EVERY, wantsValue);
    }

    public int often(int clock, int n) {
        int no = first(noClock(clock), outside(n, 0, MOST_OFTEN));
        if (no != FINE) {
            return refuse(no);
        }
        int owner = now.clocks[clock].owner;
        int times = 0;
        mind.copyFrom(now);
        for (int v = 0; v < MINUTES; v++) {
            mind.clocks[clock].set = v;
            morning.live(mind, owner, NO_LISTENER);
            if (morning.pressed >= n) {
                times++;
            }
        }
        return times;
    }

    public int hears(int sleeper) {
        int no = noSleeper(sleeper);
        return no != FINE ? refuse(no) : heardBy(now, sleeper);
    }

    public int silent(int sleeper) {
        int no = noSleeper(sleeper);
        if (no != FINE) {
            return refuse(no);
        }
        int all = heardBy(now, sleeper);
        int best = NONE;
        int bestSpared = 0;
        mind.copyFrom(now);
        for (int clock = 0; clock < now.clockCount; clock++) {
            if (now.clocks[clock].owner != sleeper) {
                mind.clocks[clock].set = NEVER;
                int spared = all - heardBy(mind, sleeper);
                mind.clocks[clock].set = now.clocks[clock].set;
                if (spared > bestSpared) {
                    bestSpared = spared;
                    best = clock;
                }
            }
        }
        return best;
    }

    public int bet(int sleeper) {
        int no = noSleeper(sleeper);
        if (no != FINE) {
            return refuse(no);
        }
        mind.copyFrom(now);
        for (int v = 0; v <= MOST_FIRM; v++) {
            mind.firm = v;
            morning.live(mind, sleeper, NO_LISTENER);
            if (morning.pressed == 0) {
                return v;
            }
        }
        return NONE;
    }

    public int leans(int sleeper, int minute) {
        int no = first(noSleeper(sleeper), outside(minute, 0, NEVER));
        if (no != FINE) {
            return refuse(no);
        }
        int bits = 0;
        mind.copyFrom(now);
        for (int v = 0; v <= MOST_LEAN; v++) {
            mind.sleepers[sleeper].lean = v;
            morning.live(mind, sleeper, NO_LISTENER);
            if (morning.upAt == minute) {
                bits |= 1 << v;
            }
        }
        return bits;
    }

    public int back(int clock, int minute) {
        int no = first(noClock(clock), outside(minute, 0, NEVER));
        if (no != FINE) {
            return refuse(no);
        }
        int owner = now.clocks[clock].owner;
        int from = now.clocks[clock].set;
        mind.copyFrom(now);
        for (int less = 0; less <= MOST_BACK && less <= from; less++) {
            mind.clocks[clock].set = from - less;
            morning.live(mind, owner, NO_LISTENER);
            if (morning.upAt == minute) {
                return less;
            }
        }
        return NONE;
    }

    public int moment(int sleeper, int from, int n) {
        int no = noSleeper(sleeper);
        if (no == FINE && (from < 0 || n < 1)) {
            no = BELOW;
        }
        // n is looked at first: MINUTES less a small n can't wrap around, from and n together can
        if (no == FINE && (n > MOST_MOMENT || from > MINUTES - n)) {
            no = ABOVE;
        }
        if (no != FINE) {
            return refuse(no);
        }
        int best = from;
        for (int i = 1; i < n; i++) {
            if (now.depthOf(sleeper, from + i) < now.depthOf(sleeper, best)) {
                best = from + i;
            }
        }
        return best;
    }

    public int week(int sleeper, int day, int what) {
        int no = noSleeper(sleeper);
        if (day < now.day || day > LAST_DAY) {
            no = NOBODY;
        }
        no = first(no, otherThan(what, 3));
        if (no != FINE) {
            return refuse(no);
        }
        int all = 0;
        mind.copyFrom(now);
        for (int d = now.day; d <= day; d++) {
            morning.live(mind, sleeper, NO_LISTENER);
            mind.passDay(morning.pressed);
            all += morning.pressed;
        }
        if (what == 0) {
            return morning.pressed;
        }
        return what == 1 ? all : mind.tired;
    }

    public int row(int v) {
        int no = outside(v, 0, NEVER);
        if (no == FINE && toldLength >= told.length) {
            no = ABOVE;
        }
        if (no != FINE) {
            return refuse(no);
        }
        told[toldLength] = v;
        toldLength++;
        return toldLength;
    }

    public int judge(int sleeper) {
        int no = noSleeper(sleeper);
        if (no != FINE) {
            return refuse(no);
        }
        mind.copyFrom(now);
        return firstWrong(sleeper);
    }

    public int firms(int sleeper, int what) {
        int no = first(noSleeper(sleeper), otherThan(what, 2));
        if (no != FINE) {
            return refuse(no);
        }
        int many = 0;
        int least = NONE;
        mind.copyFrom(now);
        for (int v = MOST_FIRM; v >= 0; v--) {
            mind.firm = v;
            if (firstWrong(sleeper) == NONE) {
                many++;
                least = v;
            }
        }
        return what == 0 ? many : least;
    }

    public int clear() {
        int had = toldLength;
        toldLength = 0;
        return had;
    }

    public int lots(int sleeper, int n, int z) {
        int no = first(noSleeper(sleeper), outside(n, 1, MOST_LOTS));
        if (no != FINE) {
            return refuse(no);
        }
        int seed = z;
        int all = 0;
        mind.copyFrom(now);
        for (int i = 0; i < n; i++) {
            seed = drawSets(sleeper, seed);
            morning.live(mind, sleeper, NO_LISTENER);
            all += morning.pressed;
        }
        return all;
    }

    public int image() {
        kept.copyFrom(now);
        hasKept = true;
        return now.day;
    }

    public int on() {
        if (!hasKept) {
            return refuse(STATE);
        }
        now.copyFrom(kept);
        return now.day;
    }

    public int count(int what) {
        switch (what) {
            case 0: return now.sleeperCount;
            case 1: return now.clockCount;
            case 2: return now.taskCount;
            case 3: return now.sumOf(ALL_TASKS, LONG);
            case 4: return now.bus;
            case 5: return now.firm;
            case 6: return now.tired;
            case 7: return now.day;
            case 8: return toldLength;
            case 9: return text.length;
            default: return refusalsOf(what);
        }
    }

    private int refusalsOf(int what) {
        if (what <= REFUSALS_FROM || what > REFUSALS_FROM + REFUSAL_NUMBERS) {
            return NONE;
        }
        return refusals[what - REFUSALS_FROM];
    }

    private int refuse(int number) {
        if (number < 0 && number >= -REFUSAL_NUMBERS) {
            refusals[-number]++;
        }
        return number;
    }

    private int refuseValue(int number) {
        return REFUSED_VALUE - refuse(number);
    }

    private static int first(int no, int otherwise) {
        return no != FINE ? no : otherwise;
    }

    private static int outside(int v, int least, int most) {
        if (v < least) {
            return BELOW;
        }
        return v > most ? ABOVE : FINE;
    }

    private static int otherThan(int what, int whats) {
        return what < 0 || what >= whats ? OTHER : FINE;
    }

    private int noSleeper(int sleeper) {
        return sleeper < 0 || sleeper >= now.sleeperCount ? NOBODY : FINE;
    }

    private int noClock(int clock) {
        return clock < 0 || clock >= now.clockCount ? NOBODY : FINE;
    }

    private int noTask(int task) {
        return task < 0 || task >= now.taskCount ? NOBODY : FINE;
    }

    private int valueOf(Room room, int sleeper) {
        morning.live(room, sleeper, NO_LISTENER);
        int upAt = morning.upAt;
        int worth = room.worthDone(upAt) + upAt / 10 - 5 * morning.pressed;
        if (upAt != NEVER) {
            worth -= room.depthOf(sleeper, upAt);
        }
        if (upAt > room.bus) {
            worth -= 50;
        }
        return worth;
    }

    /** The number of a clock by which its sleeper's VALUE is greatest, or that VALUE. */
    private int bestOf(int clock, int part, int from, int to, boolean wantsValue) {
        int owner = now.clocks[clock].owner;
        int best = from;
        int bestValue = 0;
        mind.copyFrom(now);
        for (int v = from; v <= to; v++) {
            mind.clocks[clock].put(part, v);
            int worth = valueOf(mind, owner);
            if (v == from || worth > bestValue) {
                best = v;
                bestValue = worth;
            }
        }
        return wantsValue ? bestValue : best;
    }

    private int heardBy(Room room, int sleeper) {
        int all = 0;
        for (int other = 0; other < room.sleeperCount; other++) {
            if (other != sleeper) {
                morning.live(room, other, sleeper);
                all += morning.heard;
            }
        }
        return all;
    }

    /** The first place of the ROW at which he is not UP, by what the mind holds but its TIRED and DAY. */
    private int firstWrong(int sleeper) {
        mind.tired = now.tired;
        mind.day = now.day;
        for (int i = 0; i < toldLength && i < told.length; i++) {
            morning.live(mind, sleeper, NO_LISTENER);
            if (morning.upAt != told[i]) {
                return i;
            }
            mind.passDay(morning.pressed);
        }
        return NONE;
    }

    /** Draws the SETS of all his clocks in mind: the seed behind them. */
    private int drawSets(int sleeper, int z) {
        int seed = z;
        for (int clock = 0; clock < mind.clockCount; clock++) {
            if (mind.clocks[clock].owner == sleeper) {
                seed = seed * 1664525 + 1013904223;
                mind.clocks[clock].set = (seed & WITHOUT_SIGN) / 256 % MINUTES;
            }
        }
        return seed;
    }

    /** Whether there are numbers for all bounds, and each is within its own. */
    private static boolean areWithin(int[] numbers, int[] least, int[] most) {
        if (numbers.length < least.length) {
            return false;
        }
        for (int i = 0; i < least.length && i < most.length; i++) {
            if (numbers[i] < least[i] || numbers[i] > most[i]) {
                return false;
            }
        }
        return true;
    }

    private static final class Sleeper {
        private int kind = 0;
        private int round = 0;
        private int deep = 0;
        private int lean = 0;

        private void copyFrom(Sleeper other) {
            kind = other.kind;
            round = other.round;
            deep = other.deep;
            lean = other.lean;
        }

        /** Is as its numbers tell, if they are as they must be: whether they were. */
        private boolean beAs(int[] numbers) {
            if (!areWithin(numbers, SLEEPER_LEAST, SLEEPER_MOST) || numbers.length < SLEEPER_PARTS) {
                return false;
            }
            kind = numbers[KIND];
            round = numbers[ROUND];
            deep = numbers[DEEP];
            lean = numbers[LEAN];
            return true;
        }

        private int partOf(int what) {
            switch (what) {
                case KIND: return kind;
                case ROUND: return round;
                case DEEP: return deep;
                default: return lean;
            }
        }

        private int depthAt(int minute, int tired, int day) {
            int plain = tired;
            if (round > 0) {
                int r = minute % round;
                plain += Math.min(r, round - r) * deep * 2 / round;
            }
            switch (kind) {
                case LIGHT: return plain / 2;
                case DEEP_ONE: return plain + 4;
                case OWL: return plain + 4 + (MINUTES - minute) / 30;
                case BABY: return minute % 10 == 0 ? 0 : plain / 2;
                case NURSE: return day >= FIRST_FREE_DAY ? plain : plain / 2;
                default: return plain;
            }
        }
    }

    private static final class Clock {
        private int kind = 0;
        private int owner = 0;
        private int set = 0;
        private int every = 1;
        private int loud = 0;

        private void copyFrom(Clock other) {
            kind = other.kind;
            owner = other.owner;
            set = other.set;
            every = other.every;
            loud = other.loud;
        }

        /** Is as its numbers tell, if they are as they must be: whether they were. */
        private boolean beAs(int[] numbers) {
            if (!areWithin(numbers, CLOCK_LEAST, CLOCK_MOST) || numbers.length < CLOCK_PARTS) {
                return false;
            }
            kind = numbers[KIND];
            owner = numbers[OWNER];
            set = numbers[SET];
            every = numbers[EVERY];
            loud = numbers[LOUD];
            return true;
        }

        private int partOf(int what) {
            switch (what) {
                case KIND: return kind;
                case OWNER: return owner;
                case SET: return set;
                case EVERY: return every;
                default: return loud;
            }
        }

        /** Puts SET or EVERY: what it was. */
        private int put(int what, int v) {
            int was = partOf(what);
            if (what == SET) {
                set = v;
            } else if (what == EVERY) {
                every = v;
            }
            return was;
        }

        private boolean wakes(int minute, int depth) {
            switch (kind) {
                case PAIL: return loud + 8 >= depth;
                case RAY: return loud + minute / 10 >= depth;
                default: return loud >= depth;
            }
        }

        /** Whether he may PRESS it, if he has k times ahead of this ring. */
        private boolean mayPress(int k) {
            switch (kind) {
                case FAR:
                case PAIL: return k == 0;
                case WALKER: return false;
                default: return true;
            }
        }

        /** MINUTES to its next ring, if he has PRESSED it k times ahead of this one. */
        private int gap(int k) {
            switch (kind) {
                case RAY: return 1;
                case QUICK: return Math.max(1, every - k);
                default: return every;
            }
        }
    }

    private static final class Task {
        private int minutes = 0;
        private int worth = 0;

        private void copyFrom(Task other) {
            minutes = other.minutes;
            worth = other.worth;
        }

        /** Is as its numbers tell, if they are as they must be: whether they were. */
        private boolean beAs(int[] numbers) {
            if (!areWithin(numbers, TASK_LEAST, TASK_MOST) || numbers.length < TASK_PARTS) {
                return false;
            }
            minutes = numbers[LONG];
            worth = numbers[WORTH];
            return true;
        }

        private int partOf(int what) {
            return what == LONG ? minutes : worth;
        }
    }

    /** All that an image holds. */
    private static final class Room {
        private final Sleeper[] sleepers = new Sleeper[MOST_SLEEPERS];
        private final Clock[] clocks = new Clock[MOST_CLOCKS];
        private final Task[] tasks = new Task[MOST_TASKS];
        private int sleeperCount = 0;
        private int clockCount = 0;
        private int taskCount = 0;
        private int bus = 200;
        private int firm = 30;
        private int tired = 0;
        private int day = 0;

        /** All places are filled at once, so that none is ever null; the counts tell which are in use. */
        private Room() {
            for (int i = 0; i < sleepers.length; i++) {
                sleepers[i] = new Sleeper();
            }
            for (int i = 0; i < clocks.length; i++) {
                clocks[i] = new Clock();
            }
            for (int i = 0; i < tasks.length; i++) {
                tasks[i] = new Task();
            }
        }

        private void copyFrom(Room other) {
            for (int i = 0; i < MOST_SLEEPERS; i++) {
                sleepers[i].copyFrom(other.sleepers[i]);
            }
            for (int i = 0; i < MOST_CLOCKS; i++) {
                clocks[i].copyFrom(other.clocks[i]);
            }
            for (int i = 0; i < MOST_TASKS; i++) {
                tasks[i].copyFrom(other.tasks[i]);
            }
            sleeperCount = other.sleeperCount;
            clockCount = other.clockCount;
            taskCount = other.taskCount;
            bus = other.bus;
            firm = other.firm;
            tired = other.tired;
            day = other.day;
        }

        /** A STATEMENT comes, if it is as it must be: whether it was. */
        private boolean take(int letter, int[] numbers) {
            switch (letter) {
                case 's': return takeSleeper(numbers);
                case 'c': return takeClock(numbers);
                case 't': return takeTask(numbers);
                case 'b': return takeBus(numbers);
                case 'f': return takeFirm(numbers);
                default: return false;
            }
        }

        private boolean takeSleeper(int[] numbers) {
            if (sleeperCount >= MOST_SLEEPERS || !sleepers[sleeperCount].beAs(numbers)) {
                return false;
            }
            sleeperCount++;
            return true;
        }

        private boolean takeClock(int[] numbers) {
            if (clockCount >= MOST_CLOCKS || !clocks[clockCount].beAs(numbers)) {
                return false;
            }
            if (clocks[clockCount].owner >= sleeperCount) {
                return false;
            }
            clockCount++;
            return true;
        }

        private boolean takeTask(int[] numbers) {
            if (taskCount >= MOST_TASKS || !tasks[taskCount].beAs(numbers)) {
                return false;
            }
            taskCount++;
            return true;
        }

        private boolean takeBus(int[] numbers) {
            if (!areWithin(numbers, BUS_LEAST, BUS_MOST)) {
                return false;
            }
            bus = numbers[0];
            return true;
        }

        private boolean takeFirm(int[] numbers) {
            if (!areWithin(numbers, FIRM_LEAST, FIRM_MOST)) {
                return false;
            }
            firm = numbers[0];
            return true;
        }

        private int depthOf(int sleeper, int minute) {
            if (sleeper < 0 || sleeper >= MOST_SLEEPERS) {
                return 0;
            }
            return sleepers[sleeper].depthAt(minute, tired, day);
        }

        private int sumOf(int bits, int what) {
            int sum = 0;
            for (int i = 0; i < taskCount && i < MOST_TASKS; i++) {
                if ((bits >> i & 1) == 1) {
                    sum += tasks[i].partOf(what);
                }
            }
            return sum;
        }

        private int doneBits(int upAt) {
            int time = bus - upAt;
            int best = 0;
            int bestWorth = 0;
            for (int bits = 1; bits < 1 << taskCount; bits++) {
                if (sumOf(bits, LONG) <= time) {
                    int worth = sumOf(bits, WORTH);
                    if (worth > bestWorth) {
                        best = bits;
                        bestWorth = worth;
                    }
                }
            }
            return best;
        }

        private int worthDone(int upAt) {
            return sumOf(doneBits(upAt), WORTH);
        }

        /** The DAY is over behind a MORNING with so many PRESSES. */
        private void passDay(int pressed) {
            if (pressed >= 2) {
                tired = Math.min(tired + 1, MOST_TIRED);
            } else if (pressed == 0) {
                tired = Math.max(tired - 1, 0);
            }
            day = day >= LAST_DAY ? 0 : day + 1;
        }
    }

    /** A MORNING gone through ring by ring, and what came of the last one. */
    private static final class Morning {
        /** No clock rings twice at one MINUTE. */
        private static final int MOST_RINGS = MOST_CLOCKS * MINUTES;
        private static final int NO_CLOCK = -1;

        private final int[] next = new int[MOST_CLOCKS];
        private final int[] pressedOf = new int[MOST_CLOCKS];
        /** SPARE and LEAN less FIRM at MINUTE 0: it is 1 less each MINUTE. */
        private int ease = 0;
        private int upAt = NEVER;
        private int pressed = 0;
        private int sleptThrough = 0;
        private int heard = 0;

        /** Lives it, and counts the rings that would wake the listener. */
        private void live(Room room, int sleeper, int listener) {
            if (sleeper < 0 || sleeper >= room.sleeperCount) {
                return;
            }
            fallAsleep(room, sleeper);
            for (int i = 0; i < MOST_RINGS && upAt == NEVER; i++) {
                int place = firstToRing();
                if (place < 0 || place >= MOST_CLOCKS) {
                    return;
                }
                int minute = next[place];
                Clock clock = room.clocks[place];
                if (listener != NO_LISTENER && clock.wakes(minute, room.depthOf(listener, minute))) {
                    heard++;
                }
                int k = pressedOf[place];
                if (ring(clock, minute, room.depthOf(sleeper, minute), k)) {
                    pressedOf[place]++;
                }
                next[place] = minute + clock.gap(k);
            }
        }

        private void fallAsleep(Room room, int sleeper) {
            for (int i = 0; i < MOST_CLOCKS; i++) {
                boolean his = i < room.clockCount && room.clocks[i].owner == sleeper;
                next[i] = his ? room.clocks[i].set : NEVER;
                pressedOf[i] = 0;
            }
            ease = room.bus - room.sumOf(ALL_TASKS, LONG) + room.sleepers[sleeper].lean - room.firm;
            upAt = NEVER;
            pressed = 0;
            sleptThrough = 0;
            heard = 0;
        }

        private int firstToRing() {
            int place = NO_CLOCK;
            int least = NEVER;
            for (int i = 0; i < MOST_CLOCKS; i++) {
                if (next[i] < least) {
                    least = next[i];
                    place = i;
                }
            }
            return place;
        }

        /** A clock rings that he has PRESSED k times: whether he PRESSES it. */
        private boolean ring(Clock clock, int minute, int depth, int k) {
            if (!clock.wakes(minute, depth)) {
                sleptThrough++;
                return false;
            }
            if (clock.mayPress(k) && ease - minute + depth > 0) {
                pressed++;
                return true;
            }
            upAt = minute;
            return false;
        }
    }

    /** The letters that have come, and how they are read as STATEMENTS. */
    private static final class Text {
        private static final int LETTER_FAULT = -1000;
        private static final int STATEMENT_FAULT = -2000;
        private static final int MOST_NUMBERS = 5;
        private static final int END = -1;
        /**
         * What stands behind the first letter of a STATEMENT: "S" and "C" a letter of a KIND, "="
         * two digits, "1" to "3" one digit to so many, another sign itself.
         */
        private static final String SLEEPER_FORM = "S=,2,2;";
        private static final String CLOCK_FORM = "C1,3,3,3;";
        private static final String TASK_FORM = "2,2;";
        private static final String BUS_FORM = "3;";
        private static final String FIRM_FORM = "2;";
        private static final String NO_FORM = "";

        private final char[] letters = new char[MOST_LETTERS];
        private int length = 0;
        private int at = 0;
        private final int[] numbers = new int[MOST_NUMBERS];
        private int numberCount = 0;

        private boolean isFull() {
            return length >= letters.length;
        }

        private int add(char c) {
            if (!isFull()) {
                letters[length] = c;
                length++;
            }
            return length;
        }

        private void forget() {
            length = 0;
        }

        /** Tells the letters into a draft of a room: how many STATEMENTS, or the FAULT. */
        private int tellInto(Room draft) {
            int wrong = NONE;
            at = 0;
            for (int statements = 1; statements <= MOST_LETTERS; statements++) {
                int start = at;
                if (!readStatement()) {
                    return LETTER_FAULT - at;
                }
                if (wrong == NONE && !draft.take(letterAt(start), numbers)) {
                    wrong = start;
                }
                if (at >= length) {
                    return wrong == NONE ? statements : STATEMENT_FAULT - wrong;
                }
            }
            return LETTER_FAULT - at;
        }

        /** Reads one STATEMENT: if it can't, it stands at the letter at fault. */
        private boolean readStatement() {
            String form = formOf(letterAt(at));
            if (form.isEmpty()) {
                return false;
            }
            at++;
            numberCount = 0;
            for (int i = 0; i < form.length(); i++) {
                if (!readPart(form.charAt(i))) {
                    return false;
                }
            }
            return true;
        }

        private static String formOf(int letter) {
            switch (letter) {
                case 's': return SLEEPER_FORM;
                case 'c': return CLOCK_FORM;
                case 't': return TASK_FORM;
                case 'b': return BUS_FORM;
                case 'f': return FIRM_FORM;
                default: return NO_FORM;
            }
        }

        private boolean readPart(char part) {
            switch (part) {
                case 'S': return readKind(SLEEPER_KINDS);
                case 'C': return readKind(CLOCK_KINDS);
                case '=': return readNumber(2, 2);
                case '1': return readNumber(1, 1);
                case '2': return readNumber(1, 2);
                case '3': return readNumber(1, 3);
                default: return readSign(part);
            }
        }

        private boolean readKind(String kinds) {
            int letter = letterAt(at);
            int kind = letter == END ? -1 : kinds.indexOf((char) letter);
            if (kind < 0) {
                return false;
            }
            keep(kind);
            at++;
            return true;
        }

        private boolean readNumber(int leastDigits, int mostDigits) {
            int number = 0;
            int digits = 0;
            while (digits < mostDigits && isDigit(letterAt(at))) {
                number = number * 10 + letterAt(at) - '0';
                digits++;
                at++;
            }
            keep(number);
            return digits >= leastDigits;
        }

        private boolean readSign(char sign) {
            if (letterAt(at) != sign) {
                return false;
            }
            at++;
            return true;
        }

        private void keep(int number) {
            if (numberCount < numbers.length) {
                numbers[numberCount] = number;
                numberCount++;
            }
        }

        private int letterAt(int place) {
            return place >= 0 && place < length && place < letters.length ? letters[place] : END;
        }

        private static boolean isDigit(int letter) {
            return letter >= '0' && letter <= '9';
        }
    }
}
