/** The edges of one MORNING: DEPTH, RINGS, PRESSES, UP, DONE, VALUE, COST, and what is asked of other SETS. */
public final class MorningEdgeTest {
    /** Never deep: each ring wakes him. */
    private static final String AWAKE = "ss50,0,0;";
    /** DEPTH is 4 at each MINUTE, if he is not TIRED. */
    private static final String FOUR = "sd50,0,0;";
    private static final int ALL_LEANS = Integer.MAX_VALUE;

    private MorningEdgeTest() {
    }

    public static void main(String[] args) {
        newObject();
        limitsTaken();
        depthByRounds();
        depthByKinds();
        wakes();
        mayPress();
        nextRing();
        quickRings();
        lastMinute();
        firmness();
        spareBelowZero();
        upAndStill();
        oneMinute();
        doneByTime();
        doneLeastBits();
        doneBehindTheBus();
        costs();
        valueParts();
        valueEnds();
        eveningSets();
        eveningEverys();
        oftenSets();
        heardRings();
        silentClocks();
        bets();
        leans();
        backs();
        moments();
        Trial.end("MorningEdgeTest");
    }

    private static void newObject() {
        Trial t = new Trial("1: no SLEEPERS, no CLOCKS, no TASKS; BUS 200, FIRM 30, TIRED 0, DAY 0 at first");
        int[] counts = {0, 0, 0, 0, 200, 30, 0, 0, 0, 0, -9, 0, 0, 0, 0, 0, 0, -9};
        for (int what = 0; what < counts.length; what++) {
            t.due(counts[what], "count", what);
        }
        t.due(-1, "sleeper", 0, 0).due(-1, "clock", 0, 0).due(-1, "task", 0, 0).due(0, "clear").due(0, "image");
        t.due(0, "done", 0, 0).due(0, "done", 0, 1).due(0, "done", 300, 0).due(0, "done", 300, 1);
        t.due(0, "cost", 0).due(0, "cost", 299).due(200, "bus", 0).due(30, "firm", 0).due(0, "tired", 0);
    }

    private static void limitsTaken() {
        Trial t = new Trial("7, 8: SET 0 .. 299, EVERY 1 .. 20: what it was");
        t.tell(AWAKE.repeat(4)).tell("cw0,7,3,1;cw1,8,4,1;cw2,9,5,1;cw3,10,6,1;");
        for (int i = 0; i < 4; i++) {
            t.due(7 + i, "set", i, 0).due(0, "clock", i, 2).due(0, "set", i, 299).due(299, "clock", i, 2);
            t.due(299, "set", i, 5).due(3 + i, "every", i, 1).due(1, "clock", i, 3).due(1, "every", i, 20);
            t.due(20, "clock", i, 3).due(20, "every", i, 6).due(5, "clock", i, 2).due(6, "clock", i, 3);
        }
        t.due(0, "count", 11).due(0, "count", 14).due(0, "count", 16);
        Trial u = new Trial("9, 10, 11: FIRM 0 .. 99, BUS 0 .. 299, TIRED 0 .. 9: what it was");
        u.due(30, "firm", 0).due(0, "count", 5).due(0, "firm", 99).due(99, "count", 5).due(99, "firm", 99);
        u.due(200, "bus", 0).due(0, "count", 4).due(0, "bus", 299).due(299, "count", 4).due(299, "bus", 299);
        u.due(0, "tired", 9).due(9, "count", 6).due(9, "tired", 0).due(0, "count", 6).due(0, "tired", 0);
        u.due(0, "count", 14).due(0, "count", 16);
    }

    private static void depthByRounds() {
        int[][] minutes = {{0, 0}, {1, 2}, {9, 18}, {10, 20}, {11, 18}, {19, 2}, {20, 0}, {21, 2}, {280, 0}, {290, 20},
            {299, 2}};
        Trial least = new Trial("13: the lesser of r and ROUND less r, ROUND 20", "ss20,20,0;");
        for (int[] m : minutes) {
            least.due(m[1], "depth", 0, m[0]);
        }
        int[][] odd = {{0, 0}, {1, 0}, {2, 0}, {3, 1}, {49, 19}, {50, 19}, {51, 19}, {52, 18}, {97, 0}, {98, 0},
            {99, 0}, {102, 1}, {299, 0}};
        Trial most = new Trial("13: that times DEEP times 2 by ROUND, cut, ROUND 99", "ss99,20,0;");
        for (int[] m : odd) {
            most.due(m[1], "depth", 0, m[0]);
        }
        Trial flat = new Trial("13: DEEP 0, and TIRED", "ss20,0,0;");
        flat.due(0, "depth", 0, 10).due(0, "tired", 9).due(9, "depth", 0, 10).due(9, "depth", 0, 0);
        Trial one = new Trial("13: DEEP 1 is cut to 0 but in the middle", "ss20,1,0;");
        one.due(0, "depth", 0, 9).due(1, "depth", 0, 10).due(0, "depth", 0, 11);
    }

    private static void depthByKinds() {
        Trial light = new Trial("13: half of a SLEEPER's, TIRED too, cut", "sl20,1,0;");
        light.due(0, "depth", 0, 10).due(0, "tired", 1).due(1, "depth", 0, 10).due(0, "depth", 0, 0);
        light.due(1, "tired", 9).due(5, "depth", 0, 10).due(4, "depth", 0, 0).due(4, "depth", 0, 299);
        Trial deep = new Trial("13: a SLEEPER's and 4", "sd20,20,0;");
        deep.due(4, "depth", 0, 0).due(24, "depth", 0, 10).due(0, "tired", 9).due(33, "depth", 0, 290);
        Trial owl = new Trial("13: 1 more for each 30 MINUTES that are left to 300, cut", "so20,0,0;");
        int[][] owls = {{0, 14}, {1, 13}, {30, 13}, {31, 12}, {239, 6}, {240, 6}, {241, 5}, {269, 5}, {270, 5},
            {271, 4}, {299, 4}};
        for (int[] m : owls) {
            owl.due(m[1], "depth", 0, m[0]);
        }
        Trial baby = new Trial("13: 0 in each tenth MINUTE", "sb20,20,0;");
        baby.due(0, "tired", 9);
        for (int m = 0; m < 300; m += 10) {
            baby.due(0, "depth", 0, m);
        }
        baby.due(5, "depth", 0, 1).due(13, "depth", 0, 9).due(13, "depth", 0, 11).due(5, "depth", 0, 299);
        Trial nurse = new Trial("13: as a SLEEPER's on DAYS 5, 6", "sn20,20,0;");
        int[] days = {10, 10, 10, 10, 10, 20, 20, 10};
        for (int d = 0; d < days.length; d++) {
            nurse.due(d % 7, "count", 7).due(days[d], "depth", 0, 10);
            nurse.ask("night");
        }
        nurse.nights(4);
        nurse.due(5, "count", 7);
        nurse.ask("tired", 9);
        nurse.due(29, "depth", 0, 10).due(9, "depth", 0, 0).due(6, "night");
        nurse.ask("tired", 9);
        nurse.due(29, "depth", 0, 290).due(0, "night");
        nurse.ask("tired", 9);
        nurse.due(14, "depth", 0, 290).due(4, "depth", 0, 0);
    }

    /** One ring at 299, behind the bus, where nobody PRESSES: 299 tells that it WAKES, 300 that it is slept through. */
    private static void wakes() {
        for (char kind : "cfqw".toCharArray()) {
            Trial just = new Trial("14: " + kind + ": LOUD is DEPTH", FOUR + "c" + kind + "0,299,1,4;");
            just.due(299, "up", 0).due(0, "slept", 0).due(0, "presses", 0);
            Trial less = new Trial("14: " + kind + ": LOUD is 1 less than DEPTH", FOUR + "c" + kind + "0,299,1,3;");
            less.due(300, "up", 0).due(1, "slept", 0).due(0, "presses", 0);
        }
        Trial pail = new Trial("14: PAIL: LOUD and 8 is DEPTH or more", FOUR + "cp0,299,1,0;");
        pail.due(0, "tired", 4).due(299, "up", 0).due(4, "tired", 5).due(300, "up", 0).due(1, "slept", 0);
        Trial ray = new Trial("14: RAY: LOUD and a tenth of the MINUTE, cut", FOUR + "cr0,8,20,3;b0;");
        ray.due(10, "up", 0).due(2, "slept", 0).due(8, "set", 0, 10).due(10, "up", 0).due(0, "slept", 0);
        Trial last = new Trial("14: RAY at 299: 29", "sd26,20,0;cr0,299,1,4;");
        last.due(0, "tired", 9).due(299, "up", 0);
        Trial soft = new Trial("14: RAY at 299: 29", "sd26,20,0;cr0,299,1,3;");
        soft.due(0, "tired", 9).due(300, "up", 0).due(1, "slept", 0);
        new Trial("14: LOUD 0 WAKES at DEPTH 0", AWAKE + "cw0,299,1,0;").due(299, "up", 0);
        new Trial("14: the greatest LOUD", "so20,20,0;cw0,0,10,30;").due(0, "up", 0);
        Trial tired = new Trial("14: LOUD 30 is less than the greatest DEPTH", "so20,20,0;cw0,10,20,30;");
        tired.due(0, "tired", 9).due(300, "up", 0).due(15, "slept", 0);
    }

    private static void mayPress() {
        Trial always = new Trial("15: CLOCK, RAY, QUICK: always");
        always.tell(AWAKE.repeat(3)).tell("cc0,100,10,9;cr1,100,10,9;cq2,100,10,9;");
        always.due(7, "presses", 0).due(70, "presses", 1).due(170, "up", 0).due(170, "up", 1).due(170, "up", 2);
        Trial once = new Trial("15: FAR and PAIL: if k is 0");
        once.tell(AWAKE.repeat(2)).tell("cf0,100,10,9;cp1,100,10,9;");
        once.due(1, "presses", 0).due(110, "up", 0).due(1, "presses", 1).due(110, "up", 1);
        Trial never = new Trial("15: WALKER: never", AWAKE + "cw0,0,10,9;");
        never.due(0, "presses", 0).due(0, "up", 0).due(200, "bus", 299).due(0, "presses", 0);
        Trial slept = new Trial("15: k counts PRESSES, not what is slept through", "ss40,20,0;cf0,100,20,19;");
        slept.due(1, "presses", 0).due(160, "up", 0).due(2, "slept", 0);
        Trial own = new Trial("15: k counts PRESSES of that CLOCK", AWAKE + "cf0,100,10,9;cp0,105,10,9;");
        own.due(2, "presses", 0).due(110, "up", 0);
    }

    private static void nextRing() {
        Trial t = new Trial("16: EVERY MINUTES later, slept through each time");
        t.tell("sd50,0,0;sd50,0,0;sd50,0,0;sd50,0,0;").tell("cc0,100,1,3;cf1,100,20,3;cw2,100,7,3;cq3,100,20,3;");
        // 100 .. 299; 100, 120 .. 280; 100, 107 .. 296; 100, 120 .. 280: k stays 0
        t.due(200, "slept", 0).due(10, "slept", 1).due(29, "slept", 2).due(10, "slept", 3);
        t.due(1, "every", 0, 20).due(10, "slept", 0).due(20, "every", 3, 1).due(200, "slept", 3);
        Trial ray = new Trial("16: RAY: a MINUTE later, whatever EVERY is", "sd20,20,0;cr0,5,20,0;b0;f99;");
        // DEPTH is 4 at 20 and 40, and more at all MINUTES between; a tenth of them is 4 from 40 on
        ray.due(40, "up", 0).due(35, "slept", 0).due(20, "every", 0, 1).due(40, "up", 0);
        Trial far = new Trial("16: FAR and PAIL behind a PRESS: EVERY MINUTES later");
        far.tell(AWAKE.repeat(2)).tell("cf0,100,20,9;cp1,100,1,9;").due(120, "up", 0).due(101, "up", 1);
    }

    private static void quickRings() {
        Trial t = new Trial("16: QUICK: EVERY less k, 1 at least", AWAKE + "cq0,100,3,9;");
        // 100, 103, 105, 106 and each MINUTE to 169
        t.due(67, "presses", 0).due(170, "up", 0).due(3, "every", 0, 1);
        t.due(70, "presses", 0).due(1, "every", 0, 2);
        // 100, 102 and each MINUTE to 169
        t.due(69, "presses", 0).due(2, "every", 0, 20);
        // 100, 120, 139, 157, 174
        t.due(4, "presses", 0).due(174, "up", 0);
        Trial slept = new Trial("16: QUICK slept through: k stays", "ss20,20,0;cq0,110,20,19;");
        slept.due(10, "slept", 0).due(0, "presses", 0).due(300, "up", 0);
    }

    private static void lastMinute() {
        String[] texts = {"cc0,299,1,3;", "cc0,298,1,3;", "cc0,279,20,3;", "cc0,280,20,3;", "cc0,0,1,3;",
            "cc0,0,20,3;"};
        int[] slept = {1, 2, 2, 1, 300, 15};
        for (int i = 0; i < texts.length; i++) {
            new Trial("16: till MINUTE 299", FOUR + texts[i]).due(slept[i], "slept", 0).due(300, "up", 0);
        }
        Trial all = new Trial("16: four CLOCKS all MORNING", FOUR + "cc0,0,1,3;".repeat(4));
        all.due(1200, "slept", 0).due(0, "presses", 0).due(300, "up", 0);
        Trial last = new Trial("14: UP at 299", AWAKE + "cw0,299,1,0;").due(299, "up", 0);
        last.due(299, "set", 0, 0).due(0, "up", 0);
    }

    private static void firmness() {
        Trial t = new Trial("15: he PRESSES, if SPARE is more than FIRM", AWAKE + "cc0,150,20,9;f50;");
        t.due(0, "presses", 0).due(150, "up", 0).due(50, "firm", 49).due(1, "presses", 0).due(170, "up", 0);
        Trial least = new Trial("15: FIRM 0", AWAKE + "cc0,199,1,9;f0;");
        least.due(1, "presses", 0).due(200, "up", 0);
        Trial most = new Trial("15: FIRM 99", AWAKE + "cc0,101,1,9;f99;");
        most.due(0, "presses", 0).due(101, "set", 0, 100).due(1, "presses", 0).due(101, "up", 0);
        Trial lean = new Trial("15: and LEAN", "ss50,0,30;cc0,150,20,9;f80;");
        lean.due(0, "presses", 0).due(80, "firm", 79).due(1, "presses", 0);
        Trial deep = new Trial("15: and DEPTH", FOUR + "cc0,150,20,9;f54;");
        deep.due(0, "presses", 0).due(54, "firm", 53).due(1, "presses", 0);
        Trial tasks = new Trial("15: less the MINUTES of all TASKS", AWAKE + "cc0,150,20,9;f19;t30,0;t1,9;");
        tasks.due(0, "presses", 0).due(19, "firm", 18).due(1, "presses", 0);
    }

    private static void spareBelowZero() {
        Trial t = new Trial("15: SPARE may be below 0", "sd50,0,30;cc0,30,20,9;b0;f4;");
        t.due(0, "presses", 0).due(4, "firm", 3).due(1, "presses", 0).due(50, "up", 0);
        Trial tasks = new Trial("15: SPARE below 0 by TASKS", "ss50,0,30;cc0,0,1,9;b299;");
        tasks.tell("t60,0;".repeat(5) + "t28,0;");
        // SPARE at 0 is 299 less 328: with LEAN 1
        tasks.due(30, "firm", 0).due(1, "presses", 0).due(1, "up", 0).due(0, "firm", 1).due(0, "presses", 0);
        Trial far = new Trial("15: SPARE far below 0", "so20,20,30;cc0,299,1,30;b0;t60,0;f0;");
        far.due(0, "presses", 0).due(299, "up", 0);
    }

    private static void upAndStill() {
        Trial none = new Trial("14: who is never UP is UP at 300", AWAKE.repeat(2) + "cw0,5,1,9;");
        none.due(300, "up", 1).due(0, "presses", 1).due(0, "slept", 1).due(5, "up", 0);
        Trial pressed = new Trial("14: all PRESSED: UP at 300", "ss50,0,30;cc0,0,1,30;b299;f29;");
        pressed.due(300, "up", 0).due(300, "presses", 0).due(29, "firm", 30).due(299, "up", 0).due(299, "presses", 0);
        Trial still = new Trial("14: UP: all his CLOCKS are still", FOUR + "cw0,100,1,9;cc0,50,10,3;cc0,101,1,3;");
        // 50, 60 .. 90; the WALKER of lesser number rings first at 100
        still.due(100, "up", 0).due(5, "slept", 0);
        Trial others = new Trial("14: only his own CLOCKS", AWAKE.repeat(2) + "cw0,5,1,9;cw1,3,1,9;");
        others.due(5, "up", 0).due(3, "up", 1);
    }

    private static void oneMinute() {
        Trial t = new Trial("14: at one MINUTE by numbers", AWAKE + "cc0,100,10,9;cw0,100,1,9;cc0,100,10,9;");
        t.due(1, "presses", 0).due(100, "up", 0);
        Trial met = new Trial("14: at one MINUTE by numbers, met later", AWAKE + "cw0,120,1,9;cc0,100,20,9;");
        met.due(1, "presses", 0).due(120, "up", 0);
        Trial turned = new Trial("14: at one MINUTE by numbers, met later", AWAKE + "cc0,100,20,9;cw0,120,1,9;");
        turned.due(2, "presses", 0).due(120, "up", 0);
        Trial four = new Trial("14: the last of four", AWAKE + "cc0,9,9,0;cc0,9,9,0;cc0,9,9,0;cw0,9,9,0;");
        four.due(3, "presses", 0).due(9, "up", 0);
    }

    private static void doneByTime() {
        Trial one = new Trial("17: LONG is no more than from UP to the BUS", "t10,5;");
        one.due(1, "done", 190, 0).due(5, "done", 190, 1).due(0, "done", 191, 0).due(0, "done", 191, 1);
        Trial two = new Trial("17: LONGS together", "t10,5;t20,7;");
        int[][] due = {{0, 3, 12}, {170, 3, 12}, {171, 2, 7}, {180, 2, 7}, {181, 1, 5}, {190, 1, 5}, {191, 0, 0}};
        for (int[] d : due) {
            two.due(d[1], "done", d[0], 0).due(d[2], "done", d[0], 1);
        }
        Trial six = new Trial("17: six TASKS", "t1,99;".repeat(6));
        six.due(63, "done", 194, 0).due(594, "done", 194, 1).due(31, "done", 195, 0).due(495, "done", 195, 1);
        six.due(1, "done", 199, 0).due(99, "done", 199, 1).due(0, "done", 200, 0);
        Trial longest = new Trial("17: the longest TASKS", "t60,99;".repeat(6) + "b299;");
        longest.due(15, "done", 0, 0).due(396, "done", 0, 1).due(15, "done", 59, 0).due(7, "done", 60, 0);
        longest.due(1, "done", 239, 0).due(0, "done", 240, 0);
    }

    private static void doneLeastBits() {
        new Trial("17: of several the least bits", "t10,5;t10,5;").due(1, "done", 190, 0);
        new Trial("17: of several the least bits", "t5,2;t5,3;t10,5;").due(3, "done", 190, 0).due(7, "done", 180, 0);
        new Trial("17: of several the least bits", "t10,5;t5,2;t5,3;").due(1, "done", 190, 0);
        new Trial("17: of several the least bits: none of no WORTH", "t1,0;t1,1;t1,0;").due(2, "done", 0, 0);
        new Trial("17: all of no WORTH", "t1,0;".repeat(6)).due(0, "done", 0, 0).due(0, "done", 0, 1);
        new Trial("17: the last alone", "t60,1;".repeat(5) + "t1,1;").due(32, "done", 199, 0).due(1, "done", 199, 1);
    }

    private static void doneBehindTheBus() {
        Trial t = new Trial("17: from UP to the BUS there is none", "t1,99;");
        t.due(1, "done", 199, 0).due(0, "done", 200, 0).due(0, "done", 201, 0).due(0, "done", 201, 1);
        t.due(0, "done", 300, 0).due(0, "done", 300, 1).due(200, "bus", 299).due(1, "done", 298, 0);
        t.due(0, "done", 299, 0).due(0, "done", 300, 0).due(299, "bus", 0).due(0, "done", 0, 0).due(0, "done", 1, 0);
    }

    private static void costs() {
        Trial t = new Trial("19: WORTH of what is DONE, less that a MINUTE later", "t10,5;");
        t.due(0, "cost", 0).due(0, "cost", 189).due(5, "cost", 190).due(0, "cost", 191).due(0, "cost", 299);
        t.due(200, "bus", 10).due(5, "cost", 0).due(0, "cost", 1);
        Trial end = new Trial("19: till MINUTE 299", "t1,99;b299;").due(99, "cost", 298).due(0, "cost", 299);
        end.due(299, "bus", 298).due(0, "cost", 298).due(99, "cost", 297);
        Trial two = new Trial("19: another TASK instead", "t10,5;t20,7;");
        two.due(5, "cost", 170).due(2, "cost", 180).due(5, "cost", 190);
    }

    private static void valueParts() {
        int[][] tens = {{0, 0}, {9, 0}, {10, 1}, {99, 9}, {100, 10}, {199, 19}, {200, 20}};
        Trial t = new Trial("18: 1 for each 10 MINUTES he slept, cut", AWAKE + "cw0,0,1,9;");
        for (int[] w : tens) {
            t.ask("set", 0, w[0]);
            t.due(w[1], "value", 0);
        }
        t.ask("set", 0, 201);
        t.due(-30, "value", 0).due(200, "bus", 201).due(20, "value", 0).due(201, "bus", 0).due(-30, "value", 0);
        t.ask("set", 0, 0);
        t.due(0, "value", 0);
        t.ask("set", 0, 1);
        t.due(-50, "value", 0);
        Trial presses = new Trial("18: less 5 for each PRESS", AWAKE + "cf0,100,10,9;").due(11 - 5, "value", 0);
        presses.due(30, "firm", 99).due(11 - 5, "value", 0).due(200, "bus", 199).due(10, "value", 0);
        Trial depth = new Trial("18: less DEPTH at UP", FOUR + "cw0,100,10,13;");
        depth.due(6, "value", 0).due(0, "tired", 9).due(10 - 13, "value", 0);
        Trial never = new Trial("18: DEPTH is 0 at 300", "so20,20,0;").due(0, "tired", 9);
        never.due(30 - 50, "value", 0).due(200, "bus", 299).due(30 - 50, "value", 0);
        Trial tasks = new Trial("18: WORTH of what is DONE", AWAKE + "cw0,190,1,9;t10,70;t1,7;");
        tasks.due(70 + 19, "value", 0).due(190, "set", 0, 191).due(7 + 19, "value", 0).due(191, "set", 0, 189);
        tasks.due(77 + 18, "value", 0);
    }

    private static void valueEnds() {
        Trial least = new Trial("18: VALUE may be below 0", "ss50,0,30;cc0,0,1,30;b299;f0;");
        least.due(300, "presses", 0).due(30 - 1500 - 50, "value", 0);
        Trial most = new Trial("18: six TASKS of the greatest WORTH", AWAKE + "cw0,293,1,9;b299;" + "t1,99;".repeat(6));
        most.due(594 + 29, "value", 0).due(293, "set", 0, 294).due(495 + 29, "value", 0);
    }

    private static void eveningSets() {
        Trial same = new Trial("20: of several the least SET", FOUR + "cc0,5,5,0;");
        same.due(0, "evening", 0, 0).due(-20, "evening", 0, 1).due(1, "evening", 0, 2).due(-20, "evening", 0, 3);
        same.due(5, "clock", 0, 2).due(5, "clock", 0, 3);
        Trial tens = new Trial("20: of several the least SET", AWAKE + "cw0,7,5,9;b299;");
        tens.due(290, "evening", 0, 0).due(29, "evening", 0, 1).due(299, "bus", 200).due(200, "evening", 0, 0);
        tens.due(20, "evening", 0, 1).due(200, "bus", 199).due(190, "evening", 0, 0).due(199, "bus", 0);
        tens.due(0, "evening", 0, 0).due(0, "evening", 0, 1).due(7, "clock", 0, 2);
        Trial last = new Trial("20: SET 299", "ss23,20,0;cw0,100,10,30;b299;");
        last.due(299, "evening", 0, 0).due(29, "evening", 0, 1);
        // each SET is worth less than never to be UP, 30 less 50: he is 23 deep at 0, and LATE behind it
        Trial never = new Trial("20: SETS 0 .. 299 alone", "so20,0,0;cw0,9,1,30;b0;").due(0, "tired", 9);
        never.due(0, "evening", 0, 0).due(-23, "evening", 0, 1).due(-22 - 50, "evening", 0, 3);
        Trial own = new Trial("20: of its own SLEEPER", AWAKE + FOUR + "cw1,9,1,9;cw0,9,1,9;");
        own.due(16, "evening", 0, 1).due(20, "evening", 1, 1).due(200, "evening", 1, 0);
    }

    private static void eveningEverys() {
        Trial most = new Trial("20: EVERY 20", AWAKE + "cc0,100,10,5;");
        most.due(20, "evening", 0, 2).due(18 - 20, "evening", 0, 3).due(10, "clock", 0, 3);
        // LOUD 16 is DEPTH just at 12, which only EVERY 1 comes to; the TASK then just fits
        Trial least = new Trial("20: EVERY 1", "ss20,20,0;cw0,11,7,16;b72;t60,99;");
        least.due(1, "evening", 0, 2).due(99 + 1 - 16, "evening", 0, 3).due(7, "clock", 0, 3).due(11, "clock", 0, 2);
        Trial same = new Trial("20: of several the least EVERY", AWAKE + "cr0,100,9,5;").due(1, "evening", 0, 2);
        same.due(17 - 350, "evening", 0, 3);
    }

    private static void oftenSets() {
        Trial t = new Trial("21: in how many of SETS 0 .. 299", "ss50,0,30;cc0,7,1,9;b299;f29;");
        t.due(300, "often", 0, 0).due(300, "often", 0, 1).due(299, "often", 0, 2).due(292, "often", 0, 9);
        t.due(29, "firm", 30).due(299, "often", 0, 1).due(7, "clock", 0, 2);
        Trial n = new Trial("21: at least n times", AWAKE + "cc0,100,10,5;");
        int[] times = {300, 170, 160, 150, 140, 130, 120, 110, 100, 90};
        for (int i = 0; i < times.length; i++) {
            n.due(times[i], "often", 0, i);
        }
        Trial none = new Trial("21: he would not PRESS", AWAKE + "cw0,100,10,5;").due(300, "often", 0, 0);
        none.due(0, "often", 0, 1).due(0, "often", 0, 9);
        Trial own = new Trial("21: of its own SLEEPER", AWAKE.repeat(2) + "cf1,9,1,9;cw0,9,1,9;");
        own.due(170, "often", 0, 1).due(0, "often", 0, 2).due(0, "often", 1, 1);
    }

    private static void heardRings() {
        new Trial("22: no other SLEEPER", AWAKE + "cc0,100,10,5;").due(0, "hears", 0);
        new Trial("22: others without CLOCKS", AWAKE.repeat(4) + "cc0,100,10,5;").due(0, "hears", 0).due(8, "hears", 3);
        Trial just = new Trial("22: LOUD is his DEPTH", FOUR + AWAKE + "cw1,299,1,4;").due(1, "hears", 0);
        just.due(0, "tired", 1).due(0, "hears", 0);
        Trial all = new Trial("22: rings that the other sleeps through", AWAKE + FOUR + "cc1,0,1,0;".repeat(4));
        all.due(1200, "hears", 0).due(0, "hears", 1);
        Trial each = new Trial("22: each by himself", AWAKE.repeat(4) + "cw1,9,1,0;cw2,9,1,0;cw3,8,1,0;cw0,0,1,0;");
        each.due(3, "hears", 0).due(3, "hears", 1).due(3, "hears", 2).due(3, "hears", 3);
        Trial still = new Trial("22: UP, the other's CLOCKS are still", AWAKE.repeat(2) + "cw1,9,1,0;cw1,9,1,0;");
        still.due(1, "hears", 0);
        Trial pail = new Trial("22: by the KIND of the CLOCK", "sd50,0,0;ss50,0,0;cp1,299,1,0;");
        pail.due(0, "tired", 4).due(1, "hears", 0).due(4, "tired", 5).due(0, "hears", 0);
        // DEPTH of the one is 4; the other is UP at once: LOUD and a tenth of the MINUTE are 3 at 18, 4 at 20
        Trial ray = new Trial("22: RAY by its MINUTE", FOUR + AWAKE + "cr1,18,1,2;b0;").due(0, "hears", 0);
        ray.due(18, "set", 0, 20).due(1, "hears", 0);
    }

    private static void silentClocks() {
        new Trial("23: -9, no other SLEEPER", AWAKE + "cc0,100,10,5;").due(-9, "silent", 0);
        new Trial("23: -9, no CLOCK", AWAKE.repeat(2)).due(-9, "silent", 0);
        new Trial("23: -9, no CLOCK of another one", AWAKE.repeat(2) + "cw0,9,1,0;").due(-9, "silent", 0);
        new Trial("23: -9, he hears none", FOUR + AWAKE + "cw1,9,1,3;").due(-9, "silent", 0);
        new Trial("23: -9, another rings instead", AWAKE.repeat(2) + "cw1,9,1,0;cw1,10,1,0;").due(-9, "silent", 0);
        new Trial("23: -9, more would ring instead", AWAKE.repeat(2) + "cc1,99,10,0;cw1,9,1,0;").due(-9, "silent", 0);
        Trial one = new Trial("23: one ring is spared", AWAKE.repeat(2) + "cw0,9,1,0;cw1,9,1,0;").due(1, "silent", 0);
        one.due(0, "silent", 1);
        Trial first = new Trial("23: of several the first");
        first.tell(AWAKE.repeat(3) + "cw0,1,1,0;cw2,9,1,0;cw1,9,1,0;").due(1, "silent", 0);
        Trial last = new Trial("23: the last of four");
        last.tell(AWAKE.repeat(3) + "cw1,9,1,0;cw1,20,1,0;cw0,9,1,0;cw2,9,1,0;").due(3, "silent", 0);
        Trial most = new Trial("23: most of these", AWAKE.repeat(4) + "cw1,9,1,0;cf2,9,1,0;cf3,9,1,0;");
        most.due(1, "silent", 0).due(9, "set", 2, 8).due(9, "set", 1, 180).due(2, "silent", 0);
    }

    private static void bets() {
        Trial t = new Trial("24: the least FIRM with which he never PRESSES", AWAKE + "cc0,101,20,9;");
        t.due(99, "bet", 0).due(101, "set", 0, 100).due(-9, "bet", 0).due(100, "set", 0, 199).due(1, "bet", 0);
        t.due(199, "set", 0, 200).due(0, "bet", 0).due(200, "set", 0, 299).due(0, "bet", 0).due(30, "count", 5);
        new Trial("24: 0, no CLOCK", AWAKE).due(0, "bet", 0);
        new Trial("24: 0, a WALKER", AWAKE + "cw0,0,1,9;").due(0, "bet", 0);
        new Trial("24: 0, all slept through", FOUR + "cc0,0,1,3;").due(0, "bet", 0);
        new Trial("24: -9, FIRM 99 is too little", "ss50,0,30;cc0,130,20,9;").due(-9, "bet", 0);
        new Trial("24: FIRM 99 is enough", "ss50,0,30;cc0,131,20,9;").due(99, "bet", 0);
    }

    private static void leans() {
        // with EVERY 1 he is UP at 170 and LEAN
        Trial t = new Trial("25: LEANS 0 .. 30", "ss50,0,7;cc0,100,1,9;");
        t.due(1, "leans", 0, 170).due(2, "leans", 0, 171).due(1 << 30, "leans", 0, 200).due(0, "leans", 0, 201);
        t.due(0, "leans", 0, 169).due(0, "leans", 0, 0).due(0, "leans", 0, 300).due(7, "sleeper", 0, 3);
        t.due(177, "up", 0).due(1 << 7, "leans", 0, 177);
        new Trial("25: all LEANS, never UP", AWAKE).due(ALL_LEANS, "leans", 0, 300).due(0, "leans", 0, 0);
        new Trial("25: all LEANS, UP at 0", AWAKE + "cw0,0,1,9;").due(ALL_LEANS, "leans", 0, 0).due(0, "leans", 0, 300);
        new Trial("25: all LEANS, UP at 299", AWAKE + "cw0,299,1,9;").due(ALL_LEANS, "leans", 0, 299);
    }

    private static void backs() {
        Trial t = new Trial("26: 0 .. 60 MINUTES earlier", AWAKE + "cw0,200,1,9;");
        t.due(0, "back", 0, 200).due(1, "back", 0, 199).due(60, "back", 0, 140).due(-9, "back", 0, 139);
        t.due(-9, "back", 0, 201).due(-9, "back", 0, 300).due(-9, "back", 0, 0).due(200, "clock", 0, 2);
        t.due(200, "set", 0, 299).due(0, "back", 0, 299).due(60, "back", 0, 239).due(-9, "back", 0, 238);
        Trial low = new Trial("26: no more than its SET", AWAKE + "cw0,60,1,9;");
        low.due(60, "back", 0, 0).due(60, "set", 0, 61).due(-9, "back", 0, 0).due(60, "back", 0, 1);
        low.due(61, "set", 0, 5).due(5, "back", 0, 0).due(-9, "back", 0, 300).due(5, "set", 0, 0);
        low.due(0, "back", 0, 0).due(-9, "back", 0, 1).due(-9, "back", 0, 300);
        Trial never = new Trial("26: never UP", FOUR + "cw0,60,1,3;").due(0, "back", 0, 300).due(-9, "back", 0, 60);
        never.due(-9, "back", 0, 0);
        Trial fewest = new Trial("26: the fewest MINUTES", AWAKE + "cc0,100,10,9;");
        fewest.due(0, "back", 0, 170).due(9, "back", 0, 171).due(1, "back", 0, 179).due(-9, "back", 0, 180);
        Trial other = new Trial("26: UP by another CLOCK", AWAKE + "cw0,50,1,9;cw0,100,1,9;");
        other.due(0, "back", 1, 50).due(51, "back", 1, 49).due(60, "back", 1, 40).due(-9, "back", 1, 39);
        Trial own = new Trial("26: its own SLEEPER", AWAKE.repeat(2) + "cw1,50,1,9;").due(50, "back", 0, 0);
    }

    private static void moments() {
        Trial t = new Trial("27: of n MINUTES from one on", "ss50,20,0;");
        t.due(0, "moment", 0, 0, 1).due(0, "moment", 0, 0, 30).due(299, "moment", 0, 299, 1);
        t.due(25, "moment", 0, 25, 1).due(26, "moment", 0, 25, 2).due(27, "moment", 0, 25, 3);
        t.due(49, "moment", 0, 25, 30).due(48, "moment", 0, 20, 29).due(49, "moment", 0, 20, 30);
        t.due(299, "moment", 0, 270, 30).due(298, "moment", 0, 269, 30).due(299, "moment", 0, 298, 2);
        Trial flat = new Trial("27: of several the first", "ss50,0,0;").due(0, "moment", 0, 0, 30);
        flat.due(270, "moment", 0, 270, 30).due(7, "moment", 0, 7, 2);
        Trial baby = new Trial("27: by the KIND", "sb99,20,0;").due(40, "moment", 0, 31, 30);
        baby.due(50, "moment", 0, 41, 10).due(49, "moment", 0, 49, 1).due(290, "moment", 0, 285, 15);
    }
}
