/** The edges of NIGHTS, WEEKS, the ROW, FIRMS, LOTS, THE IMAGE and count(), and the last call of an object. */
public final class WeekEdgeTest {
    private static final int LEAST = Trial.LEAST;
    private static final int MOST = Trial.MOST;
    private static final String AWAKE = "ss50,0,0;";
    /** PRESSES twice, then UP. */
    private static final String TWICE = AWAKE + "cf0,100,10,30;cf0,105,10,30;";
    private static final String ONCE = AWAKE + "cf0,100,10,30;";
    private static final String NEVER = AWAKE + "cw0,100,10,30;";
    /** UP at 170 behind one PRESS, on DAYS 5 and 6 never: DEPTH is 20 then, LOUD 15. */
    private static final String NURSE = "sn20,20,0;cf0,150,20,15;";
    /** Each MINUTE rings: UP at BUS less FIRM, and PRESSES from SET till then. */
    private static final String EACH_MINUTE = AWAKE + "cc0,100,1,30;";

    private WeekEdgeTest() {
    }

    public static void main(String[] args) {
        nightsOfDays();
        nightsTired();
        nightOfTheDayThatEnds();
        nightOfTheFirst();
        weekTired();
        weekOfDays();
        weekOfKinds();
        rowTaken();
        judgedOfNone();
        judgedFirst();
        judgedOverTheDays();
        judgedTires();
        firmsEnds();
        firmsOfDays();
        lotsDraws();
        lotsWrap();
        lotsByNumbers();
        imageOfNothing();
        imageOfAll();
        imageLeaves();
        imageAgain();
        countsOfAll();
        countsOfTasks();
        lastCall();
        Trial.end("WeekEdgeTest");
    }

    private static void nightsOfDays() {
        Trial t = new Trial("12: DAY is 1 more, 0 behind 6", AWAKE);
        for (int i = 1; i <= 15; i++) {
            t.due(i % 7, "night").due(i % 7, "count", 7);
        }
        t.due(0, "count", 13);
    }

    private static void nightsTired() {
        Trial two = new Trial("12: TIRED is 1 more, if he PRESSED twice at least", TWICE).due(2, "presses", 0);
        for (int i = 1; i <= 10; i++) {
            two.ask("night");
            two.due(Math.min(i, 9), "count", 6);
        }
        Trial many = new Trial("12: and if more than twice", AWAKE + "cf0,100,10,30;".repeat(3)).due(3, "presses", 0);
        many.due(1, "night").due(1, "count", 6);
        Trial one = new Trial("12: TIRED stays, if he PRESSED once", ONCE).due(1, "presses", 0);
        one.due(1, "night").due(0, "count", 6).due(0, "tired", 9).due(2, "night").due(9, "count", 6);
        one.due(9, "tired", 5).due(3, "night").due(5, "count", 6);
        Trial none = new Trial("12: TIRED is 1 less, if he did not PRESS", NEVER).due(0, "presses", 0);
        none.due(0, "tired", 2);
        for (int i = 1; i >= -1; i--) {
            none.ask("night");
            none.due(Math.max(i, 0), "count", 6);
        }
        none.due(0, "tired", 9).nights(1).due(8, "count", 6);
        Trial still = new Trial("12: without a CLOCK he does not PRESS", AWAKE).due(0, "tired", 9).nights(1);
        still.due(8, "count", 6);
    }

    private static void nightOfTheDayThatEnds() {
        // two PRESSES at DEPTH 10, till DAY 4; none at DEPTH 20
        Trial t = new Trial("12: by the MORNING behind which it is", "sn20,20,0;cf0,110,20,15;cf0,110,20,15;");
        t.nights(4).due(2, "presses", 0).due(4, "count", 6).due(4, "tired", 0);
        t.due(5, "night").due(1, "count", 6).due(0, "presses", 0);
        t.due(6, "night").due(0, "count", 6).due(0, "tired", 5);
        t.due(0, "night").due(4, "count", 6).due(2, "presses", 0).due(1, "night").due(5, "count", 6);
    }

    private static void nightOfTheFirst() {
        Trial t = new Trial("12: by SLEEPER 0's MORNING", AWAKE.repeat(2) + "cf1,100,10,30;cf1,105,10,30;");
        t.due(0, "tired", 3).nights(1).due(2, "count", 6).due(2, "presses", 1);
        Trial u = new Trial("12: by SLEEPER 0's MORNING", TWICE + AWAKE + "cw1,1,1,30;").nights(1).due(1, "count", 6);
        u.due(0, "presses", 1);
    }

    private static void weekTired() {
        String[] rooms = {TWICE, ONCE, NEVER, AWAKE};
        int[] steps = {1, 0, -1, -1};
        int[] presses = {2, 1, 0, 0};
        for (int i = 0; i < rooms.length; i++) {
            for (int tired = 0; tired <= 9; tired++) {
                Trial t = new Trial("28: TIRED 0 .. 9 behind it, PRESSED " + presses[i], rooms[i]);
                t.due(0, "tired", tired);
                for (int day = 0; day <= 6; day++) {
                    int due = Math.max(0, Math.min(9, tired + steps[i] * (day + 1)));
                    t.due(presses[i], "week", 0, day, 0).due(presses[i] * (day + 1), "week", 0, day, 1);
                    t.due(due, "week", 0, day, 2);
                }
                t.due(tired, "count", 6).due(0, "count", 7);
            }
        }
    }

    private static void weekOfDays() {
        for (int now = 0; now <= 6; now++) {
            Trial t = new Trial("28: from DAY now to 6", TWICE).nights(now).due(0, "count", 11);
            t.ask("tired", 0);
            for (int day = -1; day <= 7; day++) {
                boolean taken = day >= now && day <= 6;
                t.due(taken ? 2 : -1, "week", 0, day, 0).due(taken ? 2 * (day - now + 1) : -1, "week", 0, day, 1);
                t.due(taken ? day - now + 1 : -1, "week", 0, day, 2);
            }
            t.due(now, "count", 7).due(0, "count", 6);
        }
    }

    private static void weekOfKinds() {
        Trial t = new Trial("28: one behind the other to DAY 6", AWAKE + "sn20,20,0;cf1,110,20,15;cf1,110,20,15;");
        int[] presses = {2, 2, 2, 2, 2, 0, 0};
        int[] all = {2, 4, 6, 8, 10, 10, 10};
        int[] tired = {1, 2, 3, 4, 5, 4, 3};
        for (int day = 0; day <= 6; day++) {
            t.due(presses[day], "week", 1, day, 0).due(all[day], "week", 1, day, 1).due(tired[day], "week", 1, day, 2);
            t.due(0, "week", 0, day, 0).due(0, "week", 0, day, 2);
        }
        // DEPTH 1 keeps him a MINUTE longer
        Trial each = new Trial("28: TIRED is so in the next MORNING", EACH_MINUTE);
        each.due(70, "week", 0, 0, 0).due(71, "week", 0, 1, 0).due(72, "week", 0, 2, 0).due(213, "week", 0, 2, 1);
        Trial bed = new Trial("28: of that SLEEPER's own MORNINGS", TWICE + AWAKE + "cw1,9,1,30;").due(0, "tired", 5);
        bed.due(4, "week", 1, 0, 2).due(6, "week", 0, 0, 2);
    }

    private static void rowTaken() {
        Trial t = new Trial("29: 0 .. 300, 8 at most");
        t.due(0, "count", 8).due(1, "row", 0).due(2, "row", 300).due(-4, "row", -1).due(-6, "row", 301);
        t.due(2, "count", 8).row(1, 299, 150, 7, 8, 9).due(8, "count", 8).due(-6, "row", 0).due(-6, "row", 301);
        t.due(-4, "row", -1).due(8, "count", 8).due(2, "count", 14).due(3, "count", 16);
        t.due(8, "clear").due(0, "count", 8).due(0, "clear").due(1, "row", 5).due(1, "clear").due(0, "clear");
        Trial full = new Trial("32: the ROW has none then").tell(NEVER).row(100, 100, 100, 100, 100, 100, 100, 100);
        full.due(-9, "judge", 0).due(8, "clear").due(1, "row", 99).due(0, "judge", 0).due(1, "clear");
        full.row(100).due(-9, "judge", 0).due(1, "count", 8);
    }

    private static void judgedOfNone() {
        Trial t = new Trial("30, 31: nothing in an empty ROW is not so", NEVER).due(-9, "judge", 0);
        t.due(100, "firms", 0, 0).due(0, "firms", 0, 1);
        t.row(99).due(0, "judge", 0).due(0, "firms", 0, 0).due(-9, "firms", 0, 1).due(1, "clear");
        t.due(-9, "judge", 0).due(100, "firms", 0, 0).due(0, "firms", 0, 1);
    }

    private static void judgedFirst() {
        for (int wrong = 0; wrong < 8; wrong++) {
            Trial t = new Trial("30: the first that is not so", NEVER);
            for (int i = 0; i < 8; i++) {
                t.row(i < wrong ? 100 : 101);
            }
            t.due(wrong, "judge", 0).due(8, "count", 8).due(0, "firms", 0, 0).due(-9, "firms", 0, 1);
        }
        Trial one = new Trial("30: just one is not so", NEVER).row(100, 100, 100, 100, 100, 100, 100, 99);
        one.due(7, "judge", 0).due(0, "count", 7).due(0, "count", 6);
        Trial end = new Trial("30: UP at 0, and never UP", AWAKE.repeat(2) + "cw0,0,1,1;").row(0, 0);
        end.due(-9, "judge", 0).due(0, "judge", 1).due(2, "clear").row(300, 300).due(0, "judge", 0).due(-9, "judge", 1);
    }

    private static void judgedOverTheDays() {
        int[] ups = {170, 170, 170, 170, 170, 300, 300};
        for (int now = 0; now <= 6; now++) {
            Trial t = new Trial("30: on DAYS from now on, DAY 0 behind DAY 6", NURSE).nights(now);
            for (int i = 0; i < 8; i++) {
                t.row(ups[(now + i) % 7]);
            }
            t.due(-9, "judge", 0).due(now, "count", 7).due(60, "firms", 0, 0).due(0, "firms", 0, 1);
        }
        Trial last = new Trial("30: DAY 0 behind DAY 6", NURSE).nights(6).row(300, 300).due(1, "judge", 0);
        last.due(6, "count", 7);
    }

    private static void judgedTires() {
        Trial t = new Trial("30: in mind, as in a WEEK", EACH_MINUTE);
        t.row(170, 171, 172, 173, 174, 175, 176, 177).due(-9, "judge", 0).due(0, "count", 6).due(170, "up", 0);
        t.due(0, "tired", 5).due(0, "judge", 0).due(8, "clear").row(175, 176, 177, 178, 179, 179);
        t.due(-9, "judge", 0).due(5, "count", 6).due(175, "up", 0).due(1, "firms", 0, 0).due(30, "firms", 0, 1);
    }

    private static void firmsEnds() {
        Trial t = new Trial("31: FIRMS 0 .. 99", EACH_MINUTE).row(200);
        t.due(1, "firms", 0, 0).due(0, "firms", 0, 1).due(1, "clear").row(101);
        t.due(1, "firms", 0, 0).due(99, "firms", 0, 1).due(1, "clear").row(100);
        t.due(0, "firms", 0, 0).due(-9, "firms", 0, 1).due(1, "clear").row(201);
        t.due(0, "firms", 0, 0).due(-9, "firms", 0, 1).due(30, "count", 5).due(1, "count", 8);
        new Trial("31: all FIRMS", NEVER).row(100).due(100, "firms", 0, 0).due(0, "firms", 0, 1);
        Trial some = new Trial("31: how many, the least", AWAKE + "cc0,150,20,9;").row(150);
        some.due(50, "firms", 0, 0).due(50, "firms", 0, 1).due(1, "clear").row(170);
        some.due(20, "firms", 0, 0).due(30, "firms", 0, 1).due(30, "count", 5);
        // two PRESSES each: TIRED is 1 more behind it, but not for the next FIRM
        Trial each = new Trial("31: each FIRM from TIRED now", AWAKE + "cc0,150,10,30;").row(170);
        each.due(10, "firms", 0, 0).due(30, "firms", 0, 1).row(170).due(9, "firms", 0, 0).due(31, "firms", 0, 1);
    }

    private static void firmsOfDays() {
        Trial t = new Trial("31: that all of the ROW would be so", EACH_MINUTE).row(200, 201);
        t.due(1, "firms", 0, 0).due(0, "firms", 0, 1).due(2, "clear").row(200, 200);
        t.due(0, "firms", 0, 0).due(-9, "firms", 0, 1).due(2, "clear").row(102, 103, 104, 105, 106, 107, 108, 109);
        t.due(1, "firms", 0, 0).due(98, "firms", 0, 1).due(8, "clear").row(101, 101, 101, 101, 101, 101, 101, 101);
        t.due(1, "firms", 0, 0).due(99, "firms", 0, 1).due(0, "count", 6).due(0, "count", 7).due(8, "count", 8);
    }

    private static void lotsDraws() {
        Trial t = new Trial("33: a DRAW below 300", EACH_MINUTE);
        // SETS 263, 165, 61; PRESSES are 170 less SET
        t.due(0, "lots", 0, 1, 0).due(5, "lots", 0, 1, 1).due(109, "lots", 0, 1, -1);
        t.due(0, "lots", 0, 1, LEAST).due(109, "lots", 0, 1, MOST).due(5, "lots", 0, 1, LEAST + 1);
        t.due(100, "clock", 0, 2).due(0, "count", 6).due(0, "count", 7).due(5, "lots", 0, 1, 1);
        for (int z : new int[] {LEAST, -77777, -1, 0, 1, 12345, MOST}) {
            long unsigned = z & 0xFFFFFFFFL;
            int all = 0;
            for (int n = 1; n <= 30; n++) {
                unsigned = (unsigned * 1664525 + 1013904223) % 4294967296L;
                long set = unsigned % 2147483648L / 256 % 300;
                all += set < 170 ? (int) (170 - set) : 0;
                t.due(all, "lots", 0, n, z);
            }
        }
        new Trial("33: without a CLOCK", AWAKE).due(0, "lots", 0, 30, 7);
    }

    private static void lotsWrap() {
        Trial t = new Trial("33: z without its sign's bit", EACH_MINUTE);
        int found = 0;
        for (int z = 660; z < 720; z++) {
            int next = z * 1664525 + 1013904223;
            int set = (next & MOST) / 256 % 300;
            if (next < 0) {
                found++;
                t.due(Math.max(0, 170 - set), "lots", 0, 1, z);
            }
        }
        if (found == 0) {
            t.fault("no z whose DRAW is below 0");
        }
    }

    private static void lotsByNumbers() {
        Trial t = new Trial("33: ahead of each all his CLOCKS' SETS are DRAWS, by numbers");
        t.tell(AWAKE.repeat(2) + "cw1,0,1,30;cf0,0,1,30;cw1,0,1,30;cw0,0,1,30;");
        int z = 3;
        int all = 0;
        for (int n = 1; n <= 30; n++) {
            z = z * 1664525 + 1013904223;
            int far = (z & MOST) / 256 % 300;
            z = z * 1664525 + 1013904223;
            int walker = (z & MOST) / 256 % 300;
            all += far <= walker && far < 170 ? 1 : 0;
            t.due(all, "lots", 0, n, 3).due(0, "lots", 1, n, 3);
        }
        t.due(0, "clock", 1, 2).due(0, "clock", 3, 2).due(0, "up", 0);
        Trial tired = new Trial("33: TIRED and DAY stay from one MORNING to the next", EACH_MINUTE);
        tired.due(0, "tired", 9).due(5 + 9, "lots", 0, 1, 1).due(9, "count", 6).due(0, "count", 7);
    }

    private static void imageOfNothing() {
        Trial t = new Trial("34, 35: THE IMAGE of an empty room").due(-3, "on").due(1, "count", 13).due(0, "image");
        t.due(0, "on").tell(TWICE + "t5,6;b190;f8;").nights(3).due(3, "count", 7).due(3, "count", 6).due(0, "on");
        int[] counts = {0, 0, 0, 0, 200, 30, 0, 0, 0, 0, -9, 0, 0, 1, 0, 0, 0};
        for (int what = 0; what < counts.length; what++) {
            t.due(counts[what], "count", what);
        }
        t.due(-3, "night").due(-1, "up", 0).due(-1, "clock", 0, 0).due(-1, "task", 0, 0);
        t.tell("so30,7,8;cq0,1,2,3;").due(3, "sleeper", 0, 0).due(4, "clock", 0, 0);
    }

    private static void imageOfAll() {
        Trial t = new Trial("34, 35: ON from it all is as then, a full room");
        t.tell("ss20,1,2;sl31,4,5;sd42,6,7;so99,20,30;").tell("cc0,10,1,2;cf1,20,3,4;cp2,30,5,6;cr3,299,20,30;t1,2;t3,4;t5,6;").tell("t7,8;t9,10;t60,99;b299;f99;");
        t.due(0, "tired", 9).nights(6).due(6, "count", 7).due(3, "count", 6).due(3, "tired", 9).due(6, "image");
        for (int i = 0; i < 4; i++) {
            t.ask("set", i, 50 + i);
            t.ask("every", i, 15);
        }
        t.due(299, "bus", 1).due(99, "firm", 2).due(9, "tired", 3).due(0, "night").due(6, "on");
        int[] counts = {4, 4, 6, 85, 299, 99, 9, 6};
        for (int what = 0; what < counts.length; what++) {
            t.due(counts[what], "count", what);
        }
        int[][] clocks = {{0, 0, 10, 1, 2}, {1, 1, 20, 3, 4}, {2, 2, 30, 5, 6}, {3, 3, 299, 20, 30}};
        for (int i = 0; i < 4; i++) {
            for (int what = 0; what < 5; what++) {
                t.due(clocks[i][what], "clock", i, what);
            }
        }
        t.due(99, "sleeper", 3, 1).due(20, "sleeper", 0, 1).due(60, "task", 5, 0).due(99, "task", 5, 1);
        t.due(-1, "sleeper", 4, 0).due(-1, "clock", 4, 0).due(-1, "task", 6, 0);
    }

    private static void imageLeaves() {
        Trial t = new Trial("34, 35: all but it, the ROW, letters, REFUSALS", NEVER).row(100).letters("b1");
        t.due(-4, "bus", -1).due(0, "image").row(100, 99).letters("2").due(-4, "bus", -1).due(-6, "bus", 300);
        t.due(1, "night").due(0, "on").due(3, "count", 8).due(3, "count", 9).due(2, "count", 14).due(1, "count", 16);
        t.due(2, "judge", 0).due(4, "letter", ';').due(1, "room").due(12, "count", 4).due(0, "count", 9);
        t.due(3, "clear").due(0, "on").due(0, "count", 8).due(200, "count", 4).due(0, "count", 13);
        Trial empty = new Trial("34, 35: no ROW and no letters come back", NEVER).row(1, 2).letters("xy");
        empty.due(0, "image").due(2, "clear").due(-1000, "room").due(0, "on").due(0, "count", 8).due(0, "count", 9);
    }

    private static void imageAgain() {
        Trial t = new Trial("34: THE IMAGE is taken again", NEVER).due(0, "image").nights(2).due(2, "image");
        t.nights(3).due(5, "count", 7).due(2, "on").due(2, "count", 7).due(100, "set", 0, 7).due(2, "on");
        t.due(100, "clock", 0, 2).due(2, "on").nights(5).due(0, "count", 7);
        t.due(0, "image").due(1, "night").due(0, "on");
    }

    private static void countsOfAll() {
        Trial t = new Trial("36: the most of each");
        t.tell(AWAKE.repeat(4) + "cw0,0,1,0;".repeat(4) + "b299;").tell("t60,99;".repeat(6) + "f99;");
        t.due(0, "tired", 9).nights(6).due(3, "tired", 9).row(0, 0, 0, 0, 0, 0, 0, 0).letters("z".repeat(96));
        int[] counts = {4, 4, 6, 360, 299, 99, 9, 6, 8, 96, -9, 0, 0, 0, 0, 0, 0, -9};
        for (int what = 0; what < counts.length; what++) {
            t.due(counts[what], "count", what);
        }
    }

    private static void countsOfTasks() {
        Trial t = new Trial("36: all LONG").due(0, "count", 3);
        int all = 0;
        for (int i = 1; i <= 6; i++) {
            all += i * 10;
            t.tell("t" + i * 10 + "," + i + ";").due(i, "count", 2).due(all, "count", 3);
        }
    }

    private static void lastCall() {
        Trial t = new Trial("an object is used for 512 calls", TWICE);
        while (t.calls() < Trial.MOST_CALLS - 5) {
            t.ask("bus", -1);
        }
        t.due(Trial.MOST_CALLS - 5 - 39, "count", 14).due(110, "up", 0).due(-9, "bet", 0);
        t.due(6, "evening", 0, 1).due(300, "often", 0, 0);
    }
}
