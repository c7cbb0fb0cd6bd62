import java.util.ArrayList;
import java.util.List;
import java.util.function.IntUnaryOperator;
import java.util.regex.Matcher;
import java.util.regex.Pattern;

/**
 * The document told a second time, in the slowest and plainest way and with nothing of the program
 * in it: mornings minute by minute, letters by a pattern, what-ifs on fresh copies. ModelTest
 * compares the two.
 */
final class Model {
    /** A refusal, thrown where the document tells it. */
    private static final class No extends RuntimeException {
        private static final long serialVersionUID = 1L;

        final int number;

        No(int number) {
            super(null, null, false, false);
            this.number = number;
        }
    }

    static class Sleeper implements Cloneable {
        int kind, round, deep, lean;

        int depth(World w, int minute) {
            int r = minute % round;
            int way = r < round - r ? r : round - r;
            return way * deep * 2 / round + w.tired;
        }

        @Override
        public Sleeper clone() {
            try {
                return (Sleeper) super.clone();
            } catch (CloneNotSupportedException e) {
                throw new IllegalStateException(e);
            }
        }
    }

    static class Light extends Sleeper {
        @Override
        int depth(World w, int minute) {
            return super.depth(w, minute) / 2;
        }
    }

    static class DeepOne extends Sleeper {
        @Override
        int depth(World w, int minute) {
            return super.depth(w, minute) + 4;
        }
    }

    static final class Owl extends DeepOne {
        @Override
        int depth(World w, int minute) {
            int more = 0;
            for (int left = 300 - minute; left >= 30; left -= 30) {
                more++;
            }
            return super.depth(w, minute) + more;
        }
    }

    static final class Baby extends Light {
        @Override
        int depth(World w, int minute) {
            return minute % 10 == 0 ? 0 : super.depth(w, minute);
        }
    }

    static final class Nurse extends Light {
        @Override
        int depth(World w, int minute) {
            int half = super.depth(w, minute);
            if (w.day != 5 && w.day != 6) {
                return half;
            }
            Sleeper plain = new Sleeper();
            plain.round = round;
            plain.deep = deep;
            return plain.depth(w, minute);
        }
    }

    static class Clock implements Cloneable {
        int kind, owner, set, every, loud;

        boolean wakes(int minute, int depth) {
            return loud >= depth;
        }

        boolean press(int k) {
            return true;
        }

        int later(int k) {
            return every;
        }

        @Override
        public Clock clone() {
            try {
                return (Clock) super.clone();
            } catch (CloneNotSupportedException e) {
                throw new IllegalStateException(e);
            }
        }
    }

    static class Far extends Clock {
        @Override
        boolean press(int k) {
            return k == 0;
        }
    }

    static class Pail extends Far {
        @Override
        boolean wakes(int minute, int depth) {
            return loud + 8 >= depth;
        }
    }

    static final class Ray extends Clock {
        @Override
        boolean wakes(int minute, int depth) {
            return loud + minute / 10 >= depth;
        }

        @Override
        int later(int k) {
            return 1;
        }
    }

    static final class Quick extends Clock {
        @Override
        int later(int k) {
            return every - k < 1 ? 1 : every - k;
        }
    }

    static final class Walker extends Pail {
        @Override
        boolean wakes(int minute, int depth) {
            return loud >= depth;
        }

        @Override
        boolean press(int k) {
            return false;
        }
    }

    /** What an image holds. */
    static final class World {
        final List<Sleeper> sleepers = new ArrayList<>();
        final List<Clock> clocks = new ArrayList<>();
        final List<int[]> tasks = new ArrayList<>();
        int bus = 200;
        int firm = 30;
        int tired;
        int day;

        World copy() {
            World w = new World();
            for (Sleeper s : sleepers) {
                w.sleepers.add(s.clone());
            }
            for (Clock c : clocks) {
                w.clocks.add(c.clone());
            }
            for (int[] t : tasks) {
                w.tasks.add(t.clone());
            }
            w.bus = bus;
            w.firm = firm;
            w.tired = tired;
            w.day = day;
            return w;
        }

        int allLong() {
            int sum = 0;
            for (int[] t : tasks) {
                sum += t[0];
            }
            return sum;
        }
    }

    /** One morning: when UP, how often PRESSED and SLEPT THROUGH, and {clock, minute} of each ring. */
    static final class Day {
        int up = 300;
        int presses;
        int slept;
        final List<int[]> rings = new ArrayList<>();
    }

    private World w = new World();
    private World image;
    private final StringBuilder letters = new StringBuilder();
    private final List<Integer> row = new ArrayList<>();
    private final int[] refused = new int[7];

    private static Day live(World w, int sleeper, int without) {
        Day d = new Day();
        Sleeper s = w.sleepers.get(sleeper);
        int[] next = new int[w.clocks.size()];
        int[] k = new int[w.clocks.size()];
        for (int c = 0; c < next.length; c++) {
            Clock clock = w.clocks.get(c);
            next[c] = clock.owner == sleeper && c != without ? clock.set : -1;
        }
        for (int m = 0; m < 300; m++) {
            for (int c = 0; c < next.length; c++) {
                if (next[c] != m) {
                    continue;
                }
                Clock clock = w.clocks.get(c);
                d.rings.add(new int[] {c, m});
                next[c] = m + clock.later(k[c]);
                if (!clock.wakes(m, s.depth(w, m))) {
                    d.slept++;
                    continue;
                }
                int spare = w.bus - m - w.allLong();
                if (clock.press(k[c]) && spare + s.depth(w, m) + s.lean > w.firm) {
                    k[c]++;
                    d.presses++;
                    continue;
                }
                d.up = m;
                return d;
            }
        }
        return d;
    }

    private static Day live(World w, int sleeper) {
        return live(w, sleeper, -1);
    }

    /** {bits, worth} of the best choice of tasks, tried in the order of bits. */
    private static int[] best(World w, int up) {
        int[] best = {0, 0};
        for (int bits = 0; bits < 1 << w.tasks.size(); bits++) {
            int time = w.bus - up;
            int worth = 0;
            for (int t = 0; t < w.tasks.size(); t++) {
                if ((bits & 1 << t) != 0) {
                    time -= w.tasks.get(t)[0];
                    worth += w.tasks.get(t)[1];
                }
            }
            if (time >= 0 && worth > best[1]) {
                best = new int[] {bits, worth};
            }
        }
        return best;
    }

    private static int worthOfMorning(World w, int sleeper) {
        Day d = live(w, sleeper);
        int v = best(w, d.up)[1];
        v += d.up / 10;
        v -= d.up == 300 ? 0 : w.sleepers.get(sleeper).depth(w, d.up);
        v -= 5 * d.presses;
        v -= d.up > w.bus ? 50 : 0;
        return v;
    }

    private static void behind(World w, int presses) {
        if (presses > 1 && w.tired < 9) {
            w.tired++;
        }
        if (presses == 0 && w.tired > 0) {
            w.tired--;
        }
        w.day = (w.day + 1) % 7;
    }

    private static int heard(World w, int sleeper, int without) {
        int n = 0;
        for (int other = 0; other < w.sleepers.size(); other++) {
            if (other == sleeper) {
                continue;
            }
            for (int[] ring : live(w, other, without).rings) {
                int depth = w.sleepers.get(sleeper).depth(w, ring[1]);
                if (w.clocks.get(ring[0]).wakes(ring[1], depth)) {
                    n++;
                }
            }
        }
        return n;
    }

    private static final Pattern ROOM = Pattern.compile("(s[sldobn]\\d{2},\\d{1,2},\\d{1,2};"
        + "|c[cfprqw]\\d,\\d{1,3},\\d{1,3},\\d{1,3};|t\\d{1,2},\\d{1,2};|b\\d{1,3};|f\\d{1,2};)+");

    private static boolean canGoOn(String prefix) {
        Matcher m = ROOM.matcher(prefix);
        return m.matches() || m.hitEnd();
    }

    private static boolean in(int v, int least, int most) {
        return v >= least && v <= most;
    }

    private static boolean take(World w, String statement) {
        char sort = statement.charAt(0);
        boolean hasKind = sort == 's' || sort == 'c';
        String[] parts = statement.substring(hasKind ? 2 : 1).split(",");
        int[] n = new int[parts.length];
        for (int i = 0; i < n.length; i++) {
            n[i] = Integer.parseInt(parts[i]);
        }
        if (sort == 's') {
            int kind = "sldobn".indexOf(statement.charAt(1));
            Sleeper[] kinds = {new Sleeper(), new Light(), new DeepOne(), new Owl(), new Baby(), new Nurse()};
            Sleeper s = kinds[kind];
            s.kind = kind;
            s.round = n[0];
            s.deep = n[1];
            s.lean = n[2];
            w.sleepers.add(s);
            return w.sleepers.size() <= 4 && n[0] >= 20 && n[1] <= 20 && n[2] <= 30;
        }
        if (sort == 'c') {
            int kind = "cfprqw".indexOf(statement.charAt(1));
            Clock[] kinds = {new Clock(), new Far(), new Pail(), new Ray(), new Quick(), new Walker()};
            Clock c = kinds[kind];
            c.kind = kind;
            c.owner = n[0];
            c.set = n[1];
            c.every = n[2];
            c.loud = n[3];
            w.clocks.add(c);
            return w.clocks.size() <= 4 && n[0] < w.sleepers.size() && n[1] < 300 && in(n[2], 1, 20) && n[3] <= 30;
        }
        if (sort == 't') {
            w.tasks.add(n);
            return w.tasks.size() <= 6 && in(n[0], 1, 60);
        }
        if (sort == 'b') {
            w.bus = n[0];
            return n[0] < 300;
        }
        w.firm = n[0];
        return true;
    }

    private int tell() {
        String text = letters.toString();
        letters.setLength(0);
        if (!ROOM.matcher(text).matches()) {
            int p = 0;
            while (p < text.length() && canGoOn(text.substring(0, p + 1))) {
                p++;
            }
            return -1000 - p;
        }
        World draft = w.copy();
        int many = 0;
        int from = 0;
        while (from < text.length()) {
            int to = text.indexOf(';', from);
            if (!take(draft, text.substring(from, to))) {
                return -2000 - from;
            }
            many++;
            from = to + 1;
        }
        w = draft;
        return many;
    }

    private static void range(int v, int least, int most) {
        if (v < least) {
            throw new No(-4);
        }
        if (v > most) {
            throw new No(-6);
        }
    }

    private static void what(int what, int whats) {
        if (!in(what, 0, whats - 1)) {
            throw new No(-2);
        }
    }

    private static void nobody(int v, List<?> there) {
        if (!in(v, 0, there.size() - 1)) {
            throw new No(-1);
        }
    }

    /** When a sleeper is UP, 0 if there is none: asked without a call. */
    int upOf(int sleeper) {
        return in(sleeper, 0, w.sleepers.size() - 1) ? live(w, sleeper).up : 0;
    }

    /** The answer of a call by its name, its arguments in a; what is not used of a is free. */
    int call(String name, int[] a) {
        try {
            switch (name) {
                case "letter": case "room": case "row": case "clear": case "image": case "on": case "count":
                    return told(name, a);
                case "sleeper": case "clock": case "task": case "set": case "every":
                    return thing(name, a);
                case "firm": case "bus": case "tired": case "night":
                    return world(name, a);
                case "evening": case "often": case "back":
                    return clockIf(name, a);
                case "done": case "cost":
                    return minute(name, a);
                default:
                    nobody(a[0], w.sleepers);
                    return sleeperIf(name, a);
            }
        } catch (No no) {
            refused[-no.number]++;
            boolean asValue = name.equals("value") || name.equals("cost") || name.equals("evening");
            return asValue ? 1000000000 - no.number : no.number;
        }
    }

    private int told(String name, int[] a) {
        switch (name) {
            case "letter":
                range(a[0], 0, 255);
                range(letters.length(), 0, 95);
                return letters.append((char) a[0]).length();
            case "room":
                return tell();
            case "row":
                range(a[0], 0, 300);
                range(row.size(), 0, 7);
                row.add(a[0]);
                return row.size();
            case "clear":
                int had = row.size();
                row.clear();
                return had;
            case "image":
                image = w.copy();
                return w.day;
            case "on":
                if (image == null) {
                    throw new No(-3);
                }
                w = image.copy();
                return w.day;
            default:
                int[] all = {w.sleepers.size(), w.clocks.size(), w.tasks.size(), w.allLong(), w.bus, w.firm, w.tired,
                    w.day, row.size(), letters.length(), -9, refused[1], refused[2], refused[3], refused[4],
                    refused[5], refused[6]};
                return in(a[0], 0, 16) ? all[a[0]] : -9;
        }
    }

    private int thing(String name, int[] a) {
        if (name.equals("sleeper")) {
            nobody(a[0], w.sleepers);
            what(a[1], 4);
            Sleeper s = w.sleepers.get(a[0]);
            return new int[] {s.kind, s.round, s.deep, s.lean}[a[1]];
        }
        if (name.equals("task")) {
            nobody(a[0], w.tasks);
            what(a[1], 2);
            return w.tasks.get(a[0])[a[1]];
        }
        nobody(a[0], w.clocks);
        Clock c = w.clocks.get(a[0]);
        int was;
        switch (name) {
            case "clock":
                what(a[1], 5);
                return new int[] {c.kind, c.owner, c.set, c.every, c.loud}[a[1]];
            case "set":
                range(a[1], 0, 299);
                was = c.set;
                c.set = a[1];
                return was;
            default:
                range(a[1], 1, 20);
                was = c.every;
                c.every = a[1];
                return was;
        }
    }

    private int world(String name, int[] a) {
        int was;
        switch (name) {
            case "firm":
                range(a[0], 0, 99);
                was = w.firm;
                w.firm = a[0];
                return was;
            case "bus":
                range(a[0], 0, 299);
                was = w.bus;
                w.bus = a[0];
                return was;
            case "tired":
                range(a[0], 0, 9);
                was = w.tired;
                w.tired = a[0];
                return was;
            default:
                if (w.sleepers.isEmpty()) {
                    throw new No(-3);
                }
                behind(w, live(w, 0).presses);
                return w.day;
        }
    }

    private int minute(String name, int[] a) {
        if (name.equals("done")) {
            range(a[0], 0, 300);
            what(a[1], 2);
            return best(w, a[0])[a[1]];
        }
        range(a[0], 0, 299);
        return best(w, a[0])[1] - best(w, a[0] + 1)[1];
    }

    private int clockIf(String name, int[] a) {
        nobody(a[0], w.clocks);
        int owner = w.clocks.get(a[0]).owner;
        if (name.equals("evening")) {
            what(a[1], 4);
            boolean sets = a[1] < 2;
            int[] best = null;
            for (int v = sets ? 0 : 1; v <= (sets ? 299 : 20); v++) {
                World mind = w.copy();
                if (sets) {
                    mind.clocks.get(a[0]).set = v;
                } else {
                    mind.clocks.get(a[0]).every = v;
                }
                int worth = worthOfMorning(mind, owner);
                if (best == null || worth > best[1]) {
                    best = new int[] {v, worth};
                }
            }
            return best[a[1] & 1];
        }
        if (name.equals("often")) {
            range(a[1], 0, 9);
            int n = 0;
            for (int v = 0; v < 300; v++) {
                World mind = w.copy();
                mind.clocks.get(a[0]).set = v;
                n += live(mind, owner).presses >= a[1] ? 1 : 0;
            }
            return n;
        }
        range(a[1], 0, 300);
        return firstOf(0, Math.min(60, w.clocks.get(a[0]).set), less -> {
            World mind = w.copy();
            mind.clocks.get(a[0]).set -= less;
            return live(mind, owner).up == a[1] ? 1 : 0;
        });
    }

    private static int firstOf(int from, int to, IntUnaryOperator test) {
        for (int v = from; v <= to; v++) {
            if (test.applyAsInt(v) != 0) {
                return v;
            }
        }
        return -9;
    }

    private int sleeperIf(String name, int[] a) {
        int s = a[0];
        switch (name) {
            case "depth":
                range(a[1], 0, 299);
                return w.sleepers.get(s).depth(w, a[1]);
            case "up":
                return live(w, s).up;
            case "presses":
                return live(w, s).presses;
            case "slept":
                return live(w, s).slept;
            case "value":
                return worthOfMorning(w, s);
            case "hears":
                return heard(w, s, -1);
            case "silent":
                return silent(s);
            case "bet":
                return firstOf(0, 99, f -> live(withFirm(f), s).presses == 0 ? 1 : 0);
            case "leans":
                return leans(s, a[1]);
            case "moment":
                return moment(s, a[1], a[2]);
            case "week":
                return week(s, a[1], a[2]);
            case "judge":
                return judge(w.copy(), s);
            case "firms":
                return firms(s, a[1]);
            default:
                return lots(s, a[1], a[2]);
        }
    }

    private World withFirm(int f) {
        World mind = w.copy();
        mind.firm = f;
        return mind;
    }

    private int silent(int s) {
        int most = 0;
        int best = -9;
        for (int c = 0; c < w.clocks.size(); c++) {
            int spared = w.clocks.get(c).owner == s ? 0 : heard(w, s, -1) - heard(w, s, c);
            if (spared > most) {
                most = spared;
                best = c;
            }
        }
        return best;
    }

    private int leans(int s, int up) {
        range(up, 0, 300);
        int bits = 0;
        for (int v = 0; v <= 30; v++) {
            World mind = w.copy();
            mind.sleepers.get(s).lean = v;
            bits += live(mind, s).up == up ? 1 << v : 0;
        }
        return bits;
    }

    private int moment(int s, int from, int n) {
        if (from < 0 || n < 1) {
            throw new No(-4);
        }
        if (n > 30 || (long) from + n > 300) {
            throw new No(-6);
        }
        int best = from;
        for (int m = from; m < from + n; m++) {
            if (w.sleepers.get(s).depth(w, m) < w.sleepers.get(s).depth(w, best)) {
                best = m;
            }
        }
        return best;
    }

    private int week(int s, int day, int what) {
        if (!in(day, w.day, 6)) {
            throw new No(-1);
        }
        what(what, 3);
        World mind = w.copy();
        int all = 0;
        while (true) {
            int today = mind.day;
            int presses = live(mind, s).presses;
            all += presses;
            behind(mind, presses);
            if (today == day) {
                return new int[] {presses, all, mind.tired}[what];
            }
        }
    }

    private int judge(World mind, int s) {
        for (int i = 0; i < row.size(); i++) {
            Day d = live(mind, s);
            if (d.up != row.get(i)) {
                return i;
            }
            behind(mind, d.presses);
        }
        return -9;
    }

    private int firms(int s, int what) {
        what(what, 2);
        int n = 0;
        for (int f = 0; f < 100; f++) {
            n += judge(withFirm(f), s) == -9 ? 1 : 0;
        }
        return what == 0 ? n : firstOf(0, 99, f -> judge(withFirm(f), s) == -9 ? 1 : 0);
    }

    private int lots(int s, int n, int z) {
        range(n, 1, 30);
        World mind = w.copy();
        int all = 0;
        for (int i = 0; i < n; i++) {
            for (Clock c : mind.clocks) {
                if (c.owner == s) {
                    z = (int) (z * 1664525L + 1013904223L);
                    c.set = (int) ((z & 0x7fffffffL) / 256 % 300);
                }
            }
            all += live(mind, s).presses;
        }
        return all;
    }
}
