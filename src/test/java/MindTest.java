import java.util.Arrays;

/**
 * What is asked is asked in mind: no question changes the answer of another one or of itself, and each
 * answers by what is now, whatever was thought of before. Looked for by twins, one of which was asked more.
 */
public final class MindTest {
    private static final String ROOM = "ss50,10,3;sn40,12,0;cc0,100,9,12;cf1,90,5,20;cr1,120,3,9;cc0,95,7,9;t20,30;";
    /** Of whom it is asked: the first two SLEEPERS, or CLOCKS. */
    private static final int[] ASKED = {0, 1};
    /** The questions, and what is told behind the SLEEPER or CLOCK. */
    private static final String[] NAMES = {"evening", "evening", "evening", "often", "silent", "bet", "leans", "back",
        "week", "week", "week", "judge", "firms", "firms", "lots", "hears", "value", "moment", "depth", "up", "presses",
        "slept"};
    private static final int[][] NUMBERS = {{0}, {1}, {3}, {3}, {}, {}, {173}, {150},
        {6, 0}, {6, 1}, {6, 2}, {}, {0}, {1}, {9, 5}, {}, {}, {10, 30}, {27}, {}, {},
        {}};
    private static final int PUTS = 12;

    private MindTest() {
    }

    public static void main(String[] args) {
        changesNothing();
        changesNoAnswer();
        answersByWhatIsNow();
        Trial.end("MindTest");
    }

    private static Trial object(String sentence) {
        Trial t = new Trial(sentence, ROOM);
        t.ask("tired", 2);
        t.ask("image");
        t.ask("every", 3, 6);
        t.ask("firm", 31);
        t.row(t.ask("up", 0), t.ask("week", 0, 1, 0));
        return t;
    }

    private static int[] numbersOf(int question, int of) {
        int[] told = NUMBERS[question];
        int[] all = new int[told.length + 1];
        all[0] = of;
        System.arraycopy(told, 0, all, 1, told.length);
        return all;
    }

    private static int question(Trial t, int question, int of) {
        return t.ask(NAMES[question], numbersOf(question, of));
    }

    /** Some questions only tell things apart, if they are asked by what he does now. */
    private static int questionOfNow(Trial t, int question, int of) {
        int up = t.ask("up", of);
        if (NAMES[question].equals("leans") || NAMES[question].equals("back")) {
            return t.ask(NAMES[question], of, up);
        }
        t.ask("clear");
        t.row(up);
        return question(t, question, of);
    }

    private static String nameOf(int question, int of) {
        return NAMES[question] + " " + Arrays.toString(numbersOf(question, of));
    }

    /** What a put is, by its number: each of them changes what is, so that answers are others. */
    private static void put(Trial t, int put) {
        switch (put) {
            case 0:
                t.ask("set", 0, 140);
                break;
            case 1:
                t.ask("set", 1, 40);
                break;
            case 2:
                t.ask("every", 0, 2);
                break;
            case 3:
                t.ask("every", 1, 17);
                break;
            case 4:
                t.ask("firm", 12);
                break;
            case 5:
                t.ask("bus", 160);
                break;
            case 6:
                t.ask("tired", 9);
                break;
            case 7:
                t.ask("night");
                break;
            case 8:
                t.ask("on");
                break;
            case 9:
                t.tell("b250;f20;t5,9;");
                break;
            case 10:
                t.ask("clear");
                t.row(t.ask("up", 0), 300);
                break;
            default:
                t.room(-1003, "f9;x");
                break;
        }
    }

    private static void changesNothing() {
        for (int q = 0; q < NAMES.length; q++) {
            for (int of : ASKED) {
                Trial t = object("in mind: nothing that is changes");
                int[] before = partsOf(t);
                int first = question(t, q, of);
                int[] behind = partsOf(t);
                for (int i = 0; i < before.length; i++) {
                    if (before[i] != behind[i]) {
                        t.fault(nameOf(q, of) + " changed part " + i + " from " + before[i] + " to " + behind[i]);
                    }
                }
                t.due(first, NAMES[q], numbersOf(q, of));
            }
        }
    }

    private static int[] partsOf(Trial t) {
        int[] all = new int[17 + 4 * 5 + 2 * 4 + 2];
        int n = 0;
        for (int what = 0; what < 17; what++) {
            all[n++] = t.ask("count", what);
        }
        for (int clock = 0; clock < 4; clock++) {
            for (int what = 0; what < 5; what++) {
                all[n++] = t.ask("clock", clock, what);
            }
        }
        for (int sleeper = 0; sleeper < 2; sleeper++) {
            for (int what = 0; what < 4; what++) {
                all[n++] = t.ask("sleeper", sleeper, what);
            }
        }
        all[n++] = t.ask("task", 0, 0);
        all[n] = t.ask("task", 0, 1);
        return all;
    }

    private static void changesNoAnswer() {
        for (int ahead = 0; ahead < NAMES.length; ahead++) {
            for (int q = 0; q < NAMES.length; q++) {
                for (int of : ASKED) {
                    Trial plain = object("in mind");
                    Trial asked = object("in mind: no answer changes");
                    question(asked, ahead, 1 - of);
                    compare(plain, asked, q, of, "behind " + nameOf(ahead, 1 - of));
                }
            }
        }
    }

    private static void answersByWhatIsNow() {
        for (int put = 0; put < PUTS; put++) {
            for (int ahead = 0; ahead < NAMES.length; ahead++) {
                for (int q = 0; q < NAMES.length; q++) {
                    Trial plain = object("in mind");
                    Trial asked = object("in mind: by what is now");
                    question(asked, ahead, 0);
                    put(plain, put);
                    put(asked, put);
                    compare(plain, asked, q, ahead % 2, "behind " + nameOf(ahead, 0) + " and put " + put);
                }
            }
        }
    }

    private static void compare(Trial plain, Trial asked, int question, int of, String where) {
        int due = questionOfNow(plain, question, of);
        int got = questionOfNow(asked, question, of);
        if (got != due) {
            asked.fault(nameOf(question, of) + " " + where + " answered " + got + ", due is " + due);
        }
    }
}
