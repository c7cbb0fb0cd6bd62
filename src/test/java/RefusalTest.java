import java.util.ArrayList;
import java.util.List;

/**
 * Every REFUSAL of every call: its answer, that it is counted once, and that nothing else changes. What
 * changes is looked for by a twin: an object with the same calls but the refused one, asked the same behind.
 */
public final class RefusalTest {
    private static final int LEAST = Trial.LEAST;
    private static final int MOST = Trial.MOST;
    private static final int NOBODY = -1;
    private static final int OTHER = -2;
    private static final int STATE = -3;
    private static final int BELOW = -4;
    private static final int ABOVE = -6;

    /** Where a call is refused: 4 SLEEPERS and CLOCKS, 3 TASKS, a ROW of 2, an image, letters, REFUSALS ahead. */
    private static final String FULL = "full";
    private static final String EMPTY = "empty";
    private static final String BRIM = "brim";
    private static final String LAST_DAY = "last day";
    private static final int[] NO_SUCH_OF_FOUR = {LEAST, -2, -1, 4, 5, MOST};
    private static final int[] NO_SUCH_OF_NONE = {LEAST, -1, 0, 1, MOST};

    private RefusalTest() {
    }

    public static void main(String[] args) {
        letters();
        parts();
        puts();
        nights();
        oneOfMornings();
        minutes();
        evenings();
        moments();
        weeks();
        rows();
        images();
        nobodyOfSome();
        valuesAreTold();
        countIsNone();
        Trial.end("RefusalTest");
    }

    private static Trial at(String place, String sentence) {
        Trial t = new Trial(sentence);
        if (place.equals(EMPTY)) {
            return t;
        }
        t.tell("ss50,10,3;sn40,12,0;so30,5,1;sl60,20,9;cc0,100,9,12;cq1,90,5,20;cr2,80,3,9;cp3,95,7,3;");
        t.tell("t20,30;t5,6;t1,1;b210;f40;");
        t.tell("f41;");
        t.ask("tired", 3);
        t.nights(place.equals(LAST_DAY) ? 6 : 1);
        t.row(t.ask("up", 0), 7);
        t.ask("image");
        t.ask("set", 1, 91);
        t.ask("every", 2, 4);
        t.ask("bus", 205);
        t.ask("sleeper", 9, 0);
        t.ask("sleeper", 0, 9);
        t.ask("bus", -1);
        t.ask("bus", 300);
        t.letters("b12");
        if (place.equals(BRIM)) {
            t.letters(";" + "f5;".repeat(30) + "b1");
            t.row(8, 9, 10, 11, 12, 13);
        }
        return t;
    }

    /** All that can be asked of an object, at last what it still holds of letters, and of an image. */
    private static List<Integer> asked(Trial t) {
        List<Integer> all = new ArrayList<>();
        countsAndParts(t, all);
        for (int sleeper = 0; sleeper < 4; sleeper++) {
            all.add(t.ask("up", sleeper));
            all.add(t.ask("judge", sleeper));
        }
        all.add(t.ask("firms", 0, 0));
        all.add(t.ask("firms", 0, 1));
        all.add(t.ask("clear"));
        all.add(t.ask("letter", ';'));
        all.add(t.ask("room"));
        all.add(t.ask("count", 4));
        all.add(t.ask("count", 5));
        all.add(t.ask("on"));
        countsAndParts(t, all);
        return all;
    }

    private static void countsAndParts(Trial t, List<Integer> all) {
        for (int what = 0; what < 10; what++) {
            all.add(t.ask("count", what));
        }
        for (int i = 0; i < 4; i++) {
            for (int what = 0; what < 5; what++) {
                all.add(t.ask("sleeper", i, what));
                all.add(t.ask("clock", i, what));
            }
            all.add(t.ask("task", i, 0));
            all.add(t.ask("task", i, 1));
        }
    }

    private static void refused(String place, int number, String name, int... a) {
        String sentence = "refused with " + number + " on the " + place + " object";
        Trial plain = at(place, sentence);
        Trial other = at(place, sentence);
        int[] counted = new int[7];
        for (int n = 1; n <= 6; n++) {
            counted[n] = other.ask("count", 10 + n);
            plain.ask("count", 10 + n);
        }
        boolean isValue = name.equals("value") || name.equals("cost") || name.equals("evening");
        other.due(isValue ? 1000000000 - number : number, name, a);
        for (int n = 1; n <= 6; n++) {
            other.due(counted[n] + (n == -number ? 1 : 0), "count", 10 + n);
        }
        List<Integer> due = asked(plain);
        List<Integer> got = asked(other);
        for (int i = 0; i < due.size(); i++) {
            if (!due.get(i).equals(got.get(i))) {
                other.fault(name + " changed the answer at " + i + " from " + due.get(i) + " to " + got.get(i));
            }
        }
    }

    private static void letters() {
        for (String place : new String[] {EMPTY, FULL}) {
            refused(place, BELOW, "letter", -1);
            refused(place, BELOW, "letter", LEAST);
            refused(place, ABOVE, "letter", 256);
            refused(place, ABOVE, "letter", MOST);
        }
        refused(BRIM, ABOVE, "letter", ';');
        refused(BRIM, ABOVE, "letter", 0);
        refused(BRIM, ABOVE, "letter", 255);
        refused(BRIM, ABOVE, "letter", 256);
        refused(BRIM, BELOW, "letter", -1);
        refused(BRIM, BELOW, "letter", LEAST);
    }

    private static void parts() {
        String[] names = {"sleeper", "clock", "task"};
        int[] whats = {4, 5, 2};
        for (int i = 0; i < names.length; i++) {
            for (int no : NO_SUCH_OF_NONE) {
                refused(EMPTY, NOBODY, names[i], no, 0);
            }
            for (int no : NO_SUCH_OF_FOUR) {
                refused(FULL, NOBODY, names[i], no, 0);
                refused(FULL, NOBODY, names[i], no, whats[i]);
                refused(FULL, NOBODY, names[i], no, -1);
            }
            for (int what : new int[] {LEAST, -1, whats[i], whats[i] + 1, MOST}) {
                refused(FULL, OTHER, names[i], 0, what);
                refused(FULL, OTHER, names[i], 2, what);
            }
        }
        refused(FULL, NOBODY, "task", 3, 0);
        refused(FULL, OTHER, "sleeper", 3, 4);
        refused(FULL, OTHER, "clock", 3, 5);
    }

    private static void puts() {
        for (String name : new String[] {"set", "every"}) {
            boolean isSet = name.equals("set");
            int least = isSet ? 0 : 1;
            int most = isSet ? 299 : 20;
            for (int no : NO_SUCH_OF_NONE) {
                refused(EMPTY, NOBODY, name, no, 5);
            }
            for (int no : NO_SUCH_OF_FOUR) {
                refused(FULL, NOBODY, name, no, 5);
                refused(FULL, NOBODY, name, no, least - 1);
                refused(FULL, NOBODY, name, no, most + 1);
            }
            for (int clock = 0; clock < 4; clock++) {
                refused(FULL, BELOW, name, clock, least - 1);
                refused(FULL, BELOW, name, clock, LEAST);
                refused(FULL, ABOVE, name, clock, most + 1);
                refused(FULL, ABOVE, name, clock, MOST);
            }
        }
        String[] names = {"firm", "bus", "tired"};
        int[] most = {99, 299, 9};
        for (int i = 0; i < names.length; i++) {
            for (String place : new String[] {EMPTY, FULL}) {
                refused(place, BELOW, names[i], -1);
                refused(place, BELOW, names[i], LEAST);
                refused(place, ABOVE, names[i], most[i] + 1);
                refused(place, ABOVE, names[i], MOST);
            }
        }
    }

    private static void nights() {
        refused(EMPTY, STATE, "night");
        Trial t = new Trial("12: -3, though there are TASKS", "t1,1;b7;");
        t.due(-3, "night").due(0, "count", 7).due(1, "count", 13);
    }

    private static void oneOfMornings() {
        for (String name : new String[] {"up", "presses", "slept", "value", "hears", "silent", "bet", "judge"}) {
            for (int no : NO_SUCH_OF_NONE) {
                refused(EMPTY, NOBODY, name, no);
            }
            for (int no : NO_SUCH_OF_FOUR) {
                refused(FULL, NOBODY, name, no);
            }
        }
    }

    /** Calls of one that is told, and a number with a least and a greatest. */
    private static void minutes() {
        String[] names = {"depth", "leans", "often", "back"};
        int[] most = {299, 300, 9, 300};
        for (int i = 0; i < names.length; i++) {
            for (int no : NO_SUCH_OF_NONE) {
                refused(EMPTY, NOBODY, names[i], no, 1);
            }
            for (int no : NO_SUCH_OF_FOUR) {
                refused(FULL, NOBODY, names[i], no, 1);
                refused(FULL, NOBODY, names[i], no, -1);
                refused(FULL, NOBODY, names[i], no, most[i] + 1);
            }
            for (int no = 0; no < 4; no++) {
                refused(FULL, BELOW, names[i], no, -1);
                refused(FULL, BELOW, names[i], no, LEAST);
                refused(FULL, ABOVE, names[i], no, most[i] + 1);
                refused(FULL, ABOVE, names[i], no, MOST);
            }
        }
        for (String place : new String[] {EMPTY, FULL}) {
            for (int what : new int[] {LEAST, -1, 0, 1, 2, MOST}) {
                refused(place, BELOW, "done", -1, what);
                refused(place, BELOW, "done", LEAST, what);
                refused(place, ABOVE, "done", 301, what);
                refused(place, ABOVE, "done", MOST, what);
            }
            for (int what : new int[] {LEAST, -1, 2, 3, MOST}) {
                refused(place, OTHER, "done", 0, what);
                refused(place, OTHER, "done", 300, what);
            }
            refused(place, BELOW, "cost", -1);
            refused(place, BELOW, "cost", LEAST);
            refused(place, ABOVE, "cost", 300);
            refused(place, ABOVE, "cost", MOST);
        }
    }

    private static void evenings() {
        for (String name : new String[] {"evening", "firms"}) {
            int whats = name.equals("evening") ? 4 : 2;
            for (int no : NO_SUCH_OF_NONE) {
                refused(EMPTY, NOBODY, name, no, 0);
                refused(EMPTY, NOBODY, name, no, whats);
            }
            for (int no : NO_SUCH_OF_FOUR) {
                for (int what : new int[] {-1, 0, whats - 1, whats}) {
                    refused(FULL, NOBODY, name, no, what);
                }
            }
            for (int what : new int[] {LEAST, -1, whats, whats + 1, MOST}) {
                refused(FULL, OTHER, name, 0, what);
                refused(FULL, OTHER, name, 3, what);
            }
        }
    }

    private static void moments() {
        for (int no : NO_SUCH_OF_NONE) {
            refused(EMPTY, NOBODY, "moment", no, 0, 1);
        }
        int[][] below = {{-1, 1}, {LEAST, 1}, {0, 0}, {0, -1}, {0, LEAST}, {LEAST, LEAST}, {-1, 31}, {-1, MOST},
            {300, 0}, {MOST, 0}, {MOST, LEAST}, {LEAST, MOST}};
        int[][] above = {{0, 31}, {0, MOST}, {299, 31}, {300, 1}, {MOST, 1}, {MOST, 30}, {MOST, MOST}, {299, 2},
            {271, 30}, {298, 3}, {300, 30}};
        for (int[] w : below) {
            refused(FULL, BELOW, "moment", 0, w[0], w[1]);
            refused(FULL, NOBODY, "moment", 4, w[0], w[1]);
        }
        for (int[] w : above) {
            refused(FULL, ABOVE, "moment", 3, w[0], w[1]);
            refused(FULL, NOBODY, "moment", -1, w[0], w[1]);
        }
        refused(FULL, NOBODY, "moment", LEAST, 0, 1);
        refused(FULL, NOBODY, "moment", MOST, 0, 1);
    }

    private static void weeks() {
        for (int no : NO_SUCH_OF_NONE) {
            refused(EMPTY, NOBODY, "week", no, 0, 0);
        }
        for (int what : new int[] {-1, 0, 2, 3}) {
            for (int no : NO_SUCH_OF_FOUR) {
                refused(FULL, NOBODY, "week", no, 1, what);
                refused(FULL, NOBODY, "week", no, 7, what);
            }
            for (int day : new int[] {LEAST, -1, 0, 7, 8, MOST}) {
                refused(FULL, NOBODY, "week", 0, day, what);
                refused(LAST_DAY, NOBODY, "week", 3, day, what);
            }
            refused(LAST_DAY, NOBODY, "week", 0, 5, what);
        }
        for (int what : new int[] {LEAST, -1, 3, 4, MOST}) {
            refused(FULL, OTHER, "week", 0, 1, what);
            refused(FULL, OTHER, "week", 3, 6, what);
            refused(LAST_DAY, OTHER, "week", 0, 6, what);
        }
    }

    private static void rows() {
        for (String place : new String[] {EMPTY, FULL}) {
            refused(place, BELOW, "row", -1);
            refused(place, BELOW, "row", LEAST);
            refused(place, ABOVE, "row", 301);
            refused(place, ABOVE, "row", MOST);
        }
        refused(BRIM, ABOVE, "row", 0);
        refused(BRIM, ABOVE, "row", 300);
        refused(BRIM, ABOVE, "row", 301);
        refused(BRIM, BELOW, "row", -1);
        refused(BRIM, BELOW, "row", LEAST);
        for (int no : NO_SUCH_OF_NONE) {
            refused(EMPTY, NOBODY, "lots", no, 1, 0);
        }
        for (int z : new int[] {LEAST, -1, 0, 1, MOST}) {
            for (int no : NO_SUCH_OF_FOUR) {
                refused(FULL, NOBODY, "lots", no, 1, z);
                refused(FULL, NOBODY, "lots", no, 0, z);
                refused(FULL, NOBODY, "lots", no, 31, z);
            }
            refused(FULL, BELOW, "lots", 0, 0, z);
            refused(FULL, BELOW, "lots", 3, -1, z);
            refused(FULL, BELOW, "lots", 0, LEAST, z);
            refused(FULL, ABOVE, "lots", 0, 31, z);
            refused(FULL, ABOVE, "lots", 3, 32, z);
            refused(FULL, ABOVE, "lots", 0, MOST, z);
        }
    }

    private static void images() {
        refused(EMPTY, STATE, "on");
        Trial t = new Trial("35: -3 there is none", "ss50,0,0;b7;");
        t.due(-3, "on").due(1, "count", 0).due(7, "count", 4).due(1, "count", 13).due(-3, "on").due(2, "count", 13);
    }

    /** A call is refused for the first number that there is not, and taken for the last that there is. */
    private static void nobodyOfSome() {
        for (int n = 1; n <= 4; n++) {
            Trial t = new Trial("-1: no such SLEEPER, CLOCK, TASK");
            t.tell("ss50,0,0;".repeat(n) + "cw0,5,1,1;".repeat(n) + "t1,1;".repeat(n));
            for (String name : new String[] {"up", "presses", "slept", "value", "hears", "silent", "bet", "judge"}) {
                t.due(name.equals("value") ? 1000000001 : -1, name, n);
                int got = t.ask(name, n - 1);
                if (got == -1 || got >= 1000000000) {
                    t.fault(name + " of the last is refused");
                }
            }
            t.due(50, "sleeper", n - 1, 1).due(-1, "sleeper", n, 1).due(5, "clock", n - 1, 2).due(-1, "clock", n, 2);
            t.due(1, "task", n - 1, 0).due(-1, "task", n, 0).due(5, "set", n - 1, 6).due(-1, "set", n, 6);
            t.due(1, "every", n - 1, 2).due(-1, "every", n, 2).due(0, "depth", n - 1, 0).due(-1, "depth", n, 0);
            t.due(1, "evening", n - 1, 2).due(1000000001, "evening", n, 2);
            t.due(300, "often", n - 1, 0).due(-1, "often", n, 0).due(-9, "back", n - 1, 299).due(-1, "back", n, 299);
            t.due(0, "leans", n - 1, 299).due(-1, "leans", n, 299).due(0, "moment", n - 1, 0, 1);
            t.due(-1, "moment", n, 0, 1).due(0, "week", n - 1, 0, 0).due(-1, "week", n, 0, 0);
            t.due(0, "firms", n - 1, 1).due(-1, "firms", n, 1).due(0, "lots", n - 1, 1, 0).due(-1, "lots", n, 1, 0);
        }
    }

    private static void valuesAreTold() {
        Trial t = new Trial("of value(), cost(), evening() REFUSALS are 1000000000 less them");
        t.due(1000000001, "value", 0).due(1000000004, "cost", -1).due(1000000006, "cost", 300);
        t.due(1000000001, "evening", 0, 0).due(1000000001, "evening", 0, 4);
        t.tell("ss50,0,0;cc0,1,1,1;").due(1000000002, "evening", 0, 4);
        int[] counted = {3, 1, 0, 1, 0, 1};
        for (int n = 0; n < counted.length; n++) {
            t.due(counted[n], "count", 11 + n);
        }
    }

    private static void countIsNone() {
        Trial t = new Trial("36: -9 for another what, which is no refusal", "ss50,0,0;");
        for (int what : new int[] {LEAST, -11, -2, -1, 10, 17, 18, 100, MOST}) {
            t.due(-9, "count", what);
        }
        for (int what = 11; what <= 16; what++) {
            t.due(0, "count", what);
        }
    }
}
