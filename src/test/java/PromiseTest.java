/** Each promise of the document by hand: ordinary inputs, the edges it names, and wrong inputs. */
public final class PromiseTest {
    private static final int LEAST = Integer.MIN_VALUE;
    private static final int MOST = Integer.MAX_VALUE;
    /** Never deep, so he wakes by each ring and PRESSES till MINUTE 169: SPARE is above FIRM, 30, till then. */
    private static final String PRESSER = "ss50,0,0;cc0,100,10,5;";
    private static int wrong = 0;

    private static void due(String call, long got, long want) {
        if (got != want) {
            wrong++;
            System.out.println(call + " answered " + got + ", due is " + want);
        }
    }

    private static int tell(NineMinutesMore x, String text) {
        for (int i = 0; i < text.length(); i++) {
            x.letter(text.charAt(i));
        }
        return x.room();
    }

    private static NineMinutesMore roomOf(String text) {
        NineMinutesMore x = new NineMinutesMore();
        int statements = tell(x, text);
        if (statements <= 0) {
            due("room of " + text, statements, 1);
        }
        return x;
    }

    private static void refusals(String name, NineMinutesMore x, int nobody, int other, int state, int below, int above) {
        due(name + " -1s", x.count(11), nobody);
        due(name + " -2s", x.count(12), other);
        due(name + " -3s", x.count(13), state);
        due(name + " -4s", x.count(14), below);
        due(name + " -5s", x.count(15), 0);
        due(name + " -6s", x.count(16), above);
    }

    public static void main(String[] args) {
        newObject();
        letter();
        roomGoesOn();
        roomFaultOfLetters();
        roomFaultOfStatements();
        parts();
        setAndEvery();
        firmBusTired();
        night();
        depth();
        mornings();
        kindsOfClocks();
        severalClocks();
        done();
        value();
        cost();
        evening();
        often();
        hears();
        silent();
        bet();
        leans();
        back();
        moment();
        week();
        row();
        judge();
        firms();
        lots();
        image();
        count();
        System.out.println(wrong == 0 ? "PromiseTest: all answers are as due" : wrong + " answers are not as due");
        if (wrong != 0) {
            System.exit(1);
        }
    }

    private static void newObject() {
        NineMinutesMore x = new NineMinutesMore();
        int[] want = {0, 0, 0, 0, 200, 30, 0, 0, 0, 0, -9, 0, 0, 0, 0, 0, 0};
        for (int i = 0; i < want.length; i++) {
            due("new: count(" + i + ")", x.count(i), want[i]);
        }
        due("new: sleeper(0, 0)", x.sleeper(0, 0), -1);
        due("new: clock(0, 0)", x.clock(0, 0), -1);
        due("new: task(0, 0)", x.task(0, 0), -1);
    }

    private static void letter() {
        NineMinutesMore x = new NineMinutesMore();
        due("letter(0)", x.letter(0), 1);
        due("letter(255)", x.letter(255), 2);
        due("letter(-1)", x.letter(-1), -4);
        due("letter(least)", x.letter(LEAST), -4);
        due("letter(256)", x.letter(256), -6);
        due("letter(most)", x.letter(MOST), -6);
        for (int i = 3; i <= 96; i++) {
            due("letter " + i, x.letter('f'), i);
        }
        due("letter 97", x.letter('f'), -6);
        due("letter(-1) of a full text", x.letter(-1), -4);
        due("letters", x.count(9), 96);
        refusals("letter", x, 0, 0, 0, 3, 3);
        due("room of signs", x.room(), -1000);
        due("letters behind it", x.count(9), 0);
        due("letter behind it", x.letter('f'), 1);
    }

    private static void roomGoesOn() {
        NineMinutesMore x = new NineMinutesMore();
        due("room: numbers from 0", tell(x, "ss20,00,05;cc0,007,01,00;t01,00;b000;f00;"), 5);
        due("room: BUS", x.count(4), 0);
        due("room: FIRM", x.count(5), 0);
        due("room: SET", x.clock(0, 2), 7);
        due("room: greatest", tell(x, "sn99,20,30;cw1,299,20,30;t60,99;b299;f99;"), 5);
        due("room: more to what was", x.count(0), 2);
        due("room: greatest BUS", x.count(4), 299);
        due("room: greatest FIRM", x.count(5), 99);
        due("room: greatest SET", x.clock(1, 2), 299);
        due("room: the last BUS stays", tell(x, "b1;b22;b3;"), 3);
        due("room: BUS then", x.count(4), 3);
        due("room: full", tell(x, "ss20,0,0;ss20,0,0;cc3,0,1,0;cc3,0,1,0;t1,1;t1,1;t1,1;t1,1;"), 8);
        StringBuilder long96 = new StringBuilder();
        for (int i = 0; i < 32; i++) {
            long96.append("f7;");
        }
        due("room: 96 letters", tell(x, long96.toString()), 32);
        due("room: FIRM by the last", x.count(5), 7);
        refusals("room", x, 0, 0, 0, 0, 0);
    }

    private static void roomFaultOfLetters() {
        String[] texts = {"", "x", ";", "s", "sq", "ss", "ss2", "ss2,", "ss200", "ss20;", "ss20,", "ss20,,", "ss20,1",
            "ss20,100", "ss20,1;", "ss20,1,", "ss20,1,2", "ss20,1,2,", "ss20,1,234", "c", "cx", "cc", "cc,", "cc12",
            "cc0,", "cc0,1234", "cc0,1,1234", "cc0,1,1,1234", "cc0,1,1;", "cc0,1,1,1", "t;", "t123", "t1;", "t1,123",
            "t1,2", "b;", "b1234", "b1", "f;", "f123", "f1", "f1,", "f1;;", "f1;F", "ss19,0,0;x", "f1; f1;", "s s20,0,0;"};
        int[] places = {0, 0, 0, 1, 1, 2, 3, 3, 4, 4, 5, 5, 6,
            7, 6, 7, 8, 8, 9, 1, 1, 2, 2, 3,
            4, 7, 9, 11, 7, 9, 1, 3, 2, 5,
            4, 1, 4, 2, 1, 3, 2, 2, 3, 3, 9, 3, 1};
        for (int i = 0; i < texts.length; i++) {
            NineMinutesMore x = new NineMinutesMore();
            due("room of " + texts[i], tell(x, texts[i]), -1000 - places[i]);
            due("letters behind a FAULT", x.count(9), 0);
            refusals("a FAULT", x, 0, 0, 0, 0, 0);
        }
        NineMinutesMore x = new NineMinutesMore();
        due("room of 96 letters, one lacks", tell(x, "b100;".repeat(19) + "f"), -1096);
        due("room of a sign above 127", x.letter(233), 1);
        due("its FAULT", x.room(), -1000);
    }

    private static void roomFaultOfStatements() {
        String[] texts = {"ss19,0,0;", "ss20,21,0;", "ss20,0,31;", "ss20,0,0;cc1,0,1,0;", "ss20,0,0;cc9,0,1,0;",
            "cc0,0,1,0;ss20,0,0;", "f1;ss20,0,0;cc0,300,1,0;", "ss20,0,0;cc0,0,0,0;", "ss20,0,0;cc0,0,21,0;",
            "ss20,0,0;cc0,0,1,31;", "t0,1;", "t61,1;", "f1;t60,99;t00,0;", "b300;", "b1;b999;", "f99;b299;b300;b300;",
            "ss20,0,0;ss20,0,0;ss20,0,0;ss20,0,0;ss20,0,0;", "t1,1;t1,1;t1,1;t1,1;t1,1;t1,1;t1,1;",
            "ss20,0,0;cc0,0,1,0;cc0,0,1,0;cc0,0,1,0;cc0,0,1,0;cc0,0,1,0;", "ss19,0,0;b300;"};
        int[] places = {0, 0, 0, 9, 9, 0, 12, 9, 9, 9, 0, 0, 10, 0, 3, 9, 36, 30, 49, 0};
        for (int i = 0; i < texts.length; i++) {
            NineMinutesMore x = new NineMinutesMore();
            due("room of " + texts[i], tell(x, texts[i]), -2000 - places[i]);
            due("letters behind a FAULT", x.count(9), 0);
            int all = x.count(0) + x.count(1) + x.count(2);
            due("nothing comes of " + texts[i], all, 0);
            due("BUS behind " + texts[i], x.count(4), 200);
            due("FIRM behind " + texts[i], x.count(5), 30);
            refusals("a FAULT", x, 0, 0, 0, 0, 0);
        }
        NineMinutesMore x = roomOf("ss20,0,0;ss20,0,0;ss20,0,0;");
        due("one more and one too many", tell(x, "f1;ss20,0,0;ss20,0,0;"), -2012);
        due("what stays", x.count(0), 3);
        due("one more", tell(x, "ss20,0,0;"), 1);
        due("a CLOCK of an earlier room's", tell(x, "cc3,1,1,1;"), 1);
    }

    private static void parts() {
        NineMinutesMore x = roomOf("ss20,1,2;sl31,4,5;sd42,6,7;so99,20,30;");
        tell(x, "cc0,10,1,2;cf1,20,3,4;cp2,30,5,6;cr3,299,20,30;t1,2;t60,99;");
        int[][] sleepers = {{0, 20, 1, 2}, {1, 31, 4, 5}, {2, 42, 6, 7}, {3, 99, 20, 30}};
        int[][] clocks = {{0, 0, 10, 1, 2}, {1, 1, 20, 3, 4}, {2, 2, 30, 5, 6}, {3, 3, 299, 20, 30}};
        for (int i = 0; i < 4; i++) {
            for (int what = 0; what < 4; what++) {
                due("sleeper(" + i + ", " + what + ")", x.sleeper(i, what), sleepers[i][what]);
            }
            for (int what = 0; what < 5; what++) {
                due("clock(" + i + ", " + what + ")", x.clock(i, what), clocks[i][what]);
            }
        }
        due("task(0, 0)", x.task(0, 0), 1);
        due("task(0, 1)", x.task(0, 1), 2);
        due("task(1, 0)", x.task(1, 0), 60);
        due("task(1, 1)", x.task(1, 1), 99);
        refusals("parts", x, 0, 0, 0, 0, 0);
        int[] whats = {LEAST, -1, 2, 5, MOST};
        for (int what : whats) {
            due("sleeper(0, " + what + ")", x.sleeper(0, what), what == 2 ? 1 : -2);
            due("clock(0, " + what + ")", x.clock(0, what), what == 2 ? 10 : -2);
            due("task(0, " + what + ")", x.task(0, what), -2);
            due("sleeper(4, " + what + ")", x.sleeper(4, what), -1);
            due("clock(-1, " + what + ")", x.clock(-1, what), -1);
            due("task(2, " + what + ")", x.task(2, what), -1);
        }
        due("sleeper(0, 4)", x.sleeper(0, 4), -2);
        due("sleeper(least, 0)", x.sleeper(LEAST, 0), -1);
        due("clock(most, 0)", x.clock(MOST, 0), -1);
        due("task(-1, 0)", x.task(-1, 0), -1);
        refusals("parts", x, 18, 14, 0, 0, 0);
        NineMinutesMore y = roomOf("sb20,0,0;sn20,0,0;cq0,0,1,0;cw0,0,1,0;");
        due("KIND b", y.sleeper(0, 0), 4);
        due("KIND n", y.sleeper(1, 0), 5);
        due("KIND q", y.clock(0, 0), 4);
        due("KIND w", y.clock(1, 0), 5);
    }

    private static void setAndEvery() {
        NineMinutesMore x = roomOf(PRESSER);
        due("set(0, 299)", x.set(0, 299), 100);
        due("set(0, 0)", x.set(0, 0), 299);
        due("set(0, 7)", x.set(0, 7), 0);
        due("set(0, -1)", x.set(0, -1), -4);
        due("set(0, least)", x.set(0, LEAST), -4);
        due("set(0, 300)", x.set(0, 300), -6);
        due("set(1, -1)", x.set(1, -1), -1);
        due("set(-1, 300)", x.set(-1, 300), -1);
        due("SET", x.clock(0, 2), 7);
        due("every(0, 20)", x.every(0, 20), 10);
        due("every(0, 1)", x.every(0, 1), 20);
        due("every(0, 3)", x.every(0, 3), 1);
        due("every(0, 0)", x.every(0, 0), -4);
        due("every(0, 21)", x.every(0, 21), -6);
        due("every(0, most)", x.every(0, MOST), -6);
        due("every(1, 0)", x.every(1, 0), -1);
        due("every(least, 0)", x.every(LEAST, 0), -1);
        due("EVERY", x.clock(0, 3), 3);
        refusals("set, every", x, 4, 0, 0, 3, 3);
    }

    private static void firmBusTired() {
        NineMinutesMore x = new NineMinutesMore();
        due("firm(99)", x.firm(99), 30);
        due("firm(0)", x.firm(0), 99);
        due("firm(5)", x.firm(5), 0);
        due("firm(-1)", x.firm(-1), -4);
        due("firm(100)", x.firm(100), -6);
        due("FIRM", x.count(5), 5);
        due("bus(299)", x.bus(299), 200);
        due("bus(0)", x.bus(0), 299);
        due("bus(6)", x.bus(6), 0);
        due("bus(-1)", x.bus(-1), -4);
        due("bus(300)", x.bus(300), -6);
        due("BUS", x.count(4), 6);
        due("tired(9)", x.tired(9), 0);
        due("tired(0)", x.tired(0), 9);
        due("tired(7)", x.tired(7), 0);
        due("tired(-1)", x.tired(-1), -4);
        due("tired(10)", x.tired(10), -6);
        due("TIRED", x.count(6), 7);
        refusals("firm, bus, tired", x, 0, 0, 0, 3, 3);
    }

    private static void night() {
        NineMinutesMore x = new NineMinutesMore();
        due("night() of nobody", x.night(), -3);
        due("DAY stays", x.count(7), 0);
        refusals("night", x, 0, 0, 1, 0, 0);
        tell(x, PRESSER);
        int[] tired = {1, 2, 3, 4, 5, 6, 5, 6};
        for (int i = 0; i < tired.length; i++) {
            due("night() " + i, x.night(), (i + 1) % 7);
            due("TIRED behind night " + i, x.count(6), tired[i]);
        }
        NineMinutesMore once = roomOf("ss50,0,0;cf0,100,10,9;");
        once.tired(4);
        once.night();
        due("TIRED behind one PRESS", once.count(6), 4);
        NineMinutesMore never = roomOf("ss50,0,0;ss50,0,0;cc1,100,10,5;");
        never.tired(1);
        never.night();
        due("TIRED behind no PRESS of SLEEPER 0", never.count(6), 0);
        never.night();
        due("TIRED is 0 at least", never.count(6), 0);
        NineMinutesMore always = roomOf("ss50,0,0;cc0,100,10,30;");
        always.tired(9);
        always.night();
        due("TIRED is 9 at most", always.count(6), 9);
        // on DAY 4 his depth is 10 and he PRESSES; on DAY 5 it would be 20, and he would sleep on
        NineMinutesMore nurse = roomOf("sn20,20,0;cc0,110,20,15;");
        for (int i = 0; i < 4; i++) {
            nurse.night();
        }
        nurse.tired(0);
        due("night() of a NURSE", nurse.night(), 5);
        due("TIRED by the MORNING of DAY 4", nurse.count(6), 1);
        nurse.night();
        due("TIRED by the MORNING of DAY 5", nurse.count(6), 0);
    }

    private static void depth() {
        NineMinutesMore x = roomOf("ss50,10,0;sl50,10,0;sd50,10,0;so50,10,0;");
        int[] minutes = {0, 7, 20, 25, 26, 30, 49, 50, 299};
        int[] plain = {0, 2, 8, 10, 9, 8, 0, 0, 0};
        int[] owls = {10, 9, 9, 9, 9, 9, 8, 8, 0};
        for (int i = 0; i < minutes.length; i++) {
            int m = minutes[i];
            due("depth s " + m, x.depth(0, m), plain[i]);
            due("depth l " + m, x.depth(1, m), plain[i] / 2);
            due("depth d " + m, x.depth(2, m), plain[i] + 4);
            due("depth o " + m, x.depth(3, m), plain[i] + 4 + owls[i]);
        }
        x.tired(3);
        due("depth s TIRED", x.depth(0, 20), 11);
        due("depth l TIRED", x.depth(1, 20), 5);
        due("depth d TIRED", x.depth(2, 20), 15);
        due("depth o TIRED", x.depth(3, 20), 24);
        due("depth(0, -1)", x.depth(0, -1), -4);
        due("depth(0, 300)", x.depth(0, 300), -6);
        due("depth(4, -1)", x.depth(4, -1), -1);
        due("depth(-1, 300)", x.depth(-1, 300), -1);
        due("depth(3, most)", x.depth(3, MOST), -6);
        refusals("depth", x, 2, 0, 0, 1, 2);
        NineMinutesMore y = roomOf("sb50,10,0;sn50,10,0;");
        y.tired(3);
        due("depth b 20", y.depth(0, 20), 0);
        due("depth b 0", y.depth(0, 0), 0);
        due("depth b 21", y.depth(0, 21), 5);
        due("depth b 29", y.depth(0, 29), 5);
        int[] nurse = {5, 5, 5, 5, 5, 11, 11, 5};
        for (int i = 0; i < nurse.length; i++) {
            due("depth n on DAY " + i, y.depth(1, 20), nurse[i]);
            y.night();
            y.tired(3);
        }
        due("depth of an odd ROUND", roomOf("ss33,15,0;").depth(0, 20), 11);
    }

    private static void mornings() {
        NineMinutesMore x = roomOf(PRESSER);
        due("up", x.up(0), 170);
        due("presses", x.presses(0), 7);
        due("slept", x.slept(0), 0);
        x.firm(31);
        due("up, FIRM 31", x.up(0), 170);
        x.firm(29);
        due("up, FIRM 29", x.up(0), 180);
        x.firm(30);
        x.bus(201);
        due("up, BUS 201", x.up(0), 180);
        x.bus(200);
        tell(x, "t10,0;t10,0;");
        due("up, TASKS of 20", x.up(0), 150);
        due("presses, TASKS of 20", x.presses(0), 5);
        due("up of who leans", roomOf("ss50,0,1;cc0,100,10,5;").up(0), 180);
        x.set(0, 299);
        due("up at 299", x.up(0), 299);
        NineMinutesMore none = roomOf("ss50,0,0;ss50,0,0;cc0,100,10,5;");
        due("up without a CLOCK", none.up(1), 300);
        due("presses without a CLOCK", none.presses(1), 0);
        due("slept without a CLOCK", none.slept(1), 0);
        // DEPTH at 100, 110, .. is 0 and 20 in turn: each other ring is slept through
        NineMinutesMore deep = roomOf("ss20,20,0;cc0,110,10,19;");
        due("up of a deep one", deep.up(0), 180);
        due("presses of a deep one", deep.presses(0), 3);
        due("slept of a deep one", deep.slept(0), 4);
        NineMinutesMore deaf = roomOf("ss20,20,0;cc0,110,20,19;");
        due("up of who never wakes", deaf.up(0), 300);
        due("slept of who never wakes", deaf.slept(0), 10);
        NineMinutesMore just = roomOf("ss20,20,0;cc0,110,20,20;");
        due("LOUD is just DEPTH: DEPTH keeps him in bed, too", just.up(0), 190);
        due("presses then", just.presses(0), 4);
        NineMinutesMore every = roomOf("ss50,0,30;cc0,0,1,30;b299;");
        due("all rings PRESSED", every.presses(0), 299);
        due("up with the bus", every.up(0), 299);
        every.firm(29);
        due("up never", every.up(0), 300);
        due("all 300 rings PRESSED", every.presses(0), 300);
        int[] nobody = {LEAST, -1, 1, MOST};
        NineMinutesMore y = roomOf(PRESSER);
        for (int s : nobody) {
            due("up(" + s + ")", y.up(s), -1);
            due("presses(" + s + ")", y.presses(s), -1);
            due("slept(" + s + ")", y.slept(s), -1);
        }
        refusals("mornings", y, 12, 0, 0, 0, 0);
    }

    private static void kindsOfClocks() {
        NineMinutesMore far = roomOf("ss50,0,0;cf0,100,10,5;");
        due("FAR: up", far.up(0), 110);
        due("FAR: presses", far.presses(0), 1);
        // DEPTH is 20 at 110 and 150, 0 at 130 and 170: only a PRESS counts for k
        NineMinutesMore slept = roomOf("ss40,20,0;cf0,100,20,19;");
        due("FAR: up behind rings slept through", slept.up(0), 160);
        due("FAR: slept", slept.slept(0), 2);
        NineMinutesMore pail = roomOf("ss40,10,0;cp0,100,20,2;");
        due("PAIL: LOUD and 8 is DEPTH", pail.up(0), 120);
        due("PAIL: presses", pail.presses(0), 1);
        NineMinutesMore soft = roomOf("ss40,10,0;cp0,100,20,1;");
        due("PAIL: LOUD and 8 is less", soft.slept(0), 2);
        due("PAIL: up then", soft.up(0), 160);
        // wakes at 93-108, 138-166 and from 182 on, where a tenth of the MINUTE is DEPTH; at 186 SPARE is 14, DEPTH 15
        NineMinutesMore ray = roomOf("sd50,20,0;cr0,70,20,0;");
        due("RAY: up", ray.up(0), 186);
        due("RAY: presses", ray.presses(0), 49);
        due("RAY: slept", ray.slept(0), 67);
        NineMinutesMore quick = roomOf("ss50,0,0;cq0,100,5,5;");
        due("QUICK: up", quick.up(0), 170);
        // 100, 105, 109, 112, 114 and each minute from 115 to 169
        due("QUICK: presses", quick.presses(0), 60);
        quick.set(0, 155);
        quick.every(0, 20);
        // 155 only: the next ring is 20 later, as he has PRESSED none ahead of that one
        due("QUICK: the first is EVERY later", quick.up(0), 175);
        quick.set(0, 140);
        quick.every(0, 15);
        // 140, 155 (15 later), 169 (14 later), 182 (13 later)
        due("QUICK: then less", quick.up(0), 182);
        due("QUICK: presses then", quick.presses(0), 3);
        NineMinutesMore walker = roomOf("ss50,0,0;cw0,100,10,5;");
        due("WALKER: up", walker.up(0), 100);
        due("WALKER: presses", walker.presses(0), 0);
        NineMinutesMore softly = roomOf("ss40,10,0;cw0,100,20,9;");
        due("WALKER: wakes as a CLOCK", softly.slept(0), 1);
    }

    private static void severalClocks() {
        NineMinutesMore first = roomOf("ss50,0,0;cw0,100,10,5;cc0,100,10,5;");
        due("UP by the first of one MINUTE", first.presses(0), 0);
        NineMinutesMore second = roomOf("ss50,0,0;cc0,100,10,5;cw0,100,10,5;");
        due("PRESSED ahead of the second", second.presses(0), 1);
        due("UP by the second", second.up(0), 100);
        NineMinutesMore both = roomOf("ss50,0,0;ss50,0,0;cf0,100,10,5;cf0,105,10,5;cw1,0,1,30;");
        due("k is each CLOCK's own", both.presses(0), 2);
        due("UP by the first FAR one", both.up(0), 110);
        due("another's CLOCK is another's", both.up(1), 0);
        NineMinutesMore back = roomOf("ss50,0,0;cc0,100,20,5;cc0,110,5,5;");
        // 100, 110, 115, 120 (both), 125, 130, 135, 140 (both), 145, 150, 155, 160 (both), 165
        due("two PRESSED in turn", back.presses(0), 16);
        due("up", back.up(0), 170);
    }

    private static void done() {
        NineMinutesMore x = roomOf("t20,30;t45,60;t6,9;t15,5;");
        int[][] want = {{0, 15, 104}, {114, 15, 104}, {115, 7, 99}, {129, 7, 99}, {130, 3, 90}, {135, 3, 90},
            {136, 6, 69}, {150, 2, 60}, {155, 2, 60}, {156, 13, 44}, {200, 0, 0}, {194, 4, 9}, {195, 0, 0},
            {201, 0, 0}, {300, 0, 0}};
        for (int[] w : want) {
            due("done(" + w[0] + ", 0)", x.done(w[0], 0), w[1]);
            due("done(" + w[0] + ", 1)", x.done(w[0], 1), w[2]);
        }
        due("done(-1, 9)", x.done(-1, 9), -4);
        due("done(301, -1)", x.done(301, -1), -6);
        due("done(300, 2)", x.done(300, 2), -2);
        due("done(0, -1)", x.done(0, -1), -2);
        due("done(least, 0)", x.done(LEAST, 0), -4);
        due("done(most, 0)", x.done(MOST, 0), -6);
        refusals("done", x, 0, 2, 0, 2, 2);
        NineMinutesMore tie = roomOf("t10,0;t10,5;t10,5;");
        due("done: of several the least bits", tie.done(185, 0), 2);
        due("done: nothing for no WORTH", tie.done(0, 0), 6);
        NineMinutesMore sum = roomOf("t9,2;t9,3;t9,5;t18,8;t1,0;t60,7;");
        due("done: least bits of equal WORTH", sum.done(182, 0), 6);
        due("done: all six but the worthless", sum.done(0, 0), 47);
    }

    private static void value() {
        NineMinutesMore x = roomOf(PRESSER);
        due("value", x.value(0), 17 - 35);
        tell(x, "t20,30;");
        // UP at 150 behind 5 PRESSES
        due("value with a TASK", x.value(0), 30 + 15 - 25);
        due("value LATE", roomOf("ss50,0,0;cc0,205,10,5;").value(0), 20 - 50);
        due("value just with the bus", roomOf("ss50,0,0;cc0,200,10,5;").value(0), 20);
        due("value never UP: DEPTH is 0", roomOf("sd50,20,0;").value(0), 30 - 50);
        due("value less DEPTH", roomOf("sd50,0,0;cw0,109,10,5;").value(0), 10 - 4);
        int[] nobody = {LEAST, -1, 1, MOST};
        for (int s : nobody) {
            due("value(" + s + ")", x.value(s), 1000000001);
        }
        refusals("value", x, 4, 0, 0, 0, 0);
    }

    private static void cost() {
        NineMinutesMore x = roomOf("t20,30;t45,60;t6,9;t15,5;");
        int[][] want = {{0, 0}, {113, 0}, {114, 5}, {129, 9}, {130, 0}, {155, 16}, {194, 9}, {200, 0}, {299, 0}};
        for (int[] w : want) {
            due("cost(" + w[0] + ")", x.cost(w[0]), w[1]);
        }
        due("cost(-1)", x.cost(-1), 1000000004);
        due("cost(least)", x.cost(LEAST), 1000000004);
        due("cost(300)", x.cost(300), 1000000006);
        due("cost(most)", x.cost(MOST), 1000000006);
        refusals("cost", x, 0, 0, 0, 2, 2);
        NineMinutesMore late = roomOf("t1,7;b299;");
        due("cost(298)", late.cost(298), 7);
    }

    private static void evening() {
        NineMinutesMore x = roomOf("ss50,0,0;cw0,100,10,5;");
        due("evening SET", x.evening(0, 0), 200);
        due("evening VALUE", x.evening(0, 1), 20);
        due("evening EVERY", x.evening(0, 2), 1);
        due("evening its VALUE", x.evening(0, 3), 10);
        due("SET stays", x.clock(0, 2), 100);
        due("EVERY stays", x.clock(0, 3), 10);
        x.bus(0);
        // SET 0: 0; SET 299: 29 less 50
        due("evening SET 0", x.evening(0, 0), 0);
        due("evening VALUE 0", x.evening(0, 1), 0);
        NineMinutesMore bad = roomOf("sd50,0,0;cw0,250,10,30;b0;f99;");
        // TIRED 9 and 4 deep at each MINUTE: SET 0 is -13 and not LATE, SET 290 is 29 less 63
        bad.tired(9);
        due("evening below 0", bad.evening(0, 1), -13);
        due("evening below 0: EVERY", bad.evening(0, 3), 25 - 63);
        // 299 is 13 ROUNDS of 23: only there he is UP at 29 tens and not deep
        NineMinutesMore last = roomOf("ss23,20,0;cw0,100,10,30;b299;");
        due("evening SET 299", last.evening(0, 0), 299);
        due("evening VALUE 299", last.evening(0, 1), 29);
        NineMinutesMore y = roomOf(PRESSER);
        // EVERY 20: 100, 120, 140, 160 PRESSED, UP at 180
        due("evening best EVERY", y.evening(0, 2), 20);
        due("evening its VALUE", y.evening(0, 3), 18 - 20);
        due("evening other", y.evening(0, 4), 1000000002);
        due("evening -1", y.evening(0, -1), 1000000002);
        due("evening nobody", y.evening(1, 4), 1000000001);
        due("evening nobody below", y.evening(-1, 0), 1000000001);
        refusals("evening", y, 2, 2, 0, 0, 0);
        NineMinutesMore two = roomOf("ss50,0,0;sd50,0,0;cw0,30,10,5;cw1,100,10,5;");
        due("evening by its own SLEEPER", two.evening(1, 1), 20 - 4);
        two.bus(250);
        due("evening by the BUS as it is now", two.evening(0, 0), 250);
    }

    private static void often() {
        NineMinutesMore x = roomOf(PRESSER);
        int[] want = {300, 170, 160, 150, 140, 130, 120, 110, 100, 90};
        for (int n = 0; n <= 9; n++) {
            due("often(0, " + n + ")", x.often(0, n), want[n]);
        }
        due("often(0, -1)", x.often(0, -1), -4);
        due("often(0, 10)", x.often(0, 10), -6);
        due("often(1, -1)", x.often(1, -1), -1);
        due("often(-1, 10)", x.often(-1, 10), -1);
        refusals("often", x, 2, 0, 0, 1, 1);
        due("SET stays", x.clock(0, 2), 100);
        // the FAR one is PRESSED at 100, if the WALKER, SET behind it, hasn't got him up by then
        NineMinutesMore two = roomOf("ss50,0,0;cw0,10,10,5;cf0,100,20,5;");
        due("often by all PRESSES of his", two.often(0, 1), 199);
    }

    private static void hears() {
        NineMinutesMore x = roomOf("ss50,0,0;ss50,0,0;cc1,100,10,5;");
        due("hears: seven PRESSED, one UP", x.hears(0), 8);
        due("hears not his own", x.hears(1), 0);
        due("hears(2)", x.hears(2), -1);
        due("hears(-1)", x.hears(-1), -1);
        refusals("hears", x, 2, 0, 0, 0, 0);
        // the one is 8 deep in the middle of each 50 MINUTES: 6 at 120, 8 at 125, 6 at 130
        NineMinutesMore deep = roomOf("ss50,8,0;ss50,0,0;cc1,100,10,5;");
        due("hears by his own DEPTH", deep.hears(0), 5);
        NineMinutesMore slept = roomOf("ss50,0,0;ss20,20,0;cc1,110,20,19;");
        due("hears what is slept through", slept.hears(0), 10);
        NineMinutesMore up = roomOf("ss50,0,0;ss50,0,0;cc1,100,10,5;cw0,0,10,5;");
        due("hears though he is up", up.hears(0), 8);
        due("hears the WALKER", up.hears(1), 1);
        NineMinutesMore three = roomOf("ss50,0,0;ss50,0,0;ss50,0,0;cc1,100,10,5;cw2,100,9,5;");
        due("hears two others", three.hears(0), 9);
        due("hears one other", three.hears(2), 8);
        NineMinutesMore pail = roomOf("ss50,20,0;ss50,0,0;cp1,120,10,10;");
        due("hears by the KIND of the CLOCK", pail.hears(0), 2);
    }

    private static void silent() {
        NineMinutesMore x = roomOf("ss50,0,0;ss50,0,0;cw0,1,1,30;cc1,100,10,5;");
        due("silent", x.silent(0), 1);
        due("silent: the one ring", x.silent(1), 0);
        due("silent(2)", x.silent(2), -1);
        due("silent(-1)", x.silent(-1), -1);
        refusals("silent", x, 2, 0, 0, 0, 0);
        due("SET stays", x.clock(1, 2), 100);
        due("silent alone", roomOf(PRESSER).silent(0), -9);
        due("silent of CLOCKS not heard", roomOf("ss50,0,0;ss50,0,0;cc1,100,10,0;f1;").silent(0), 0);
        // without the WALKER he would only be UP by the next one: no ring less
        NineMinutesMore one = roomOf("ss50,0,0;ss50,0,0;cw1,100,10,5;cw1,120,10,5;");
        due("silent: none spares", one.silent(0), -9);
        // without the WALKER the RAY would ring on
        NineMinutesMore more = roomOf("ss50,0,0;ss50,0,0;cw1,100,10,5;cr1,99,10,5;");
        due("silent: the RAY of two rings", more.silent(0), 1);
        NineMinutesMore tie = roomOf("ss50,0,0;ss50,0,0;ss50,0,0;cw1,100,10,5;cw2,50,10,5;");
        due("silent: of several the first", tie.silent(0), 0);
    }

    private static void bet() {
        NineMinutesMore x = roomOf("ss50,0,0;cc0,150,10,5;");
        due("bet", x.bet(0), 50);
        due("FIRM stays", x.count(5), 30);
        x.set(0, 101);
        due("bet of 99", x.bet(0), 99);
        x.set(0, 100);
        due("no bet", x.bet(0), -9);
        due("bet of a WALKER", roomOf("ss50,0,0;cw0,0,1,5;").bet(0), 0);
        due("bet without a CLOCK", roomOf("ss50,0,0;").bet(0), 0);
        due("bet behind the bus", roomOf("ss50,0,0;cc0,250,10,5;").bet(0), 0);
        due("bet by DEPTH and LEAN", roomOf("sd50,0,7;cc0,150,10,5;").bet(0), 61);
        due("bet(1)", x.bet(1), -1);
        due("bet(-1)", x.bet(-1), -1);
        refusals("bet", x, 2, 0, 0, 0, 0);
    }

    private static void leans() {
        NineMinutesMore x = roomOf("ss50,0,3;cc0,190,10,5;");
        due("leans(0, 190)", x.leans(0, 190), (1 << 21) - 1);
        due("leans(0, 200)", x.leans(0, 200), MOST - ((1 << 21) - 1));
        due("leans(0, 195)", x.leans(0, 195), 0);
        due("leans(0, 300)", x.leans(0, 300), 0);
        due("LEAN stays", x.sleeper(0, 3), 3);
        due("leans without a CLOCK", roomOf("ss50,0,0;").leans(0, 300), MOST);
        due("leans at 0", roomOf("ss50,0,0;cw0,0,1,1;").leans(0, 0), MOST);
        due("leans(0, -1)", x.leans(0, -1), -4);
        due("leans(0, 301)", x.leans(0, 301), -6);
        due("leans(1, -1)", x.leans(1, -1), -1);
        due("leans(-1, 301)", x.leans(-1, 301), -1);
        refusals("leans", x, 2, 0, 0, 1, 1);
    }

    private static void back() {
        NineMinutesMore x = roomOf("ss50,0,0;cc0,190,10,5;");
        due("back(0, 190)", x.back(0, 190), 0);
        due("back(0, 180)", x.back(0, 180), 10);
        due("back(0, 170)", x.back(0, 170), 20);
        due("back(0, 169)", x.back(0, 169), -9);
        due("back(0, 191)", x.back(0, 191), -9);
        due("back(0, 300)", x.back(0, 300), -9);
        due("SET stays", x.clock(0, 2), 190);
        NineMinutesMore walker = roomOf("ss50,0,0;cw0,200,1,5;");
        due("back by 60", walker.back(0, 140), 60);
        due("back by 61", walker.back(0, 139), -9);
        walker.set(0, 10);
        due("back by all of its SET", walker.back(0, 0), 10);
        NineMinutesMore none = roomOf("ss50,0,0;sd50,0,0;cw1,250,1,3;");
        due("back never UP", none.back(0, 300), 0);
        due("back(0, -1)", x.back(0, -1), -4);
        due("back(0, 301)", x.back(0, 301), -6);
        due("back(1, -1)", x.back(1, -1), -1);
        due("back(-1, 301)", x.back(-1, 301), -1);
        refusals("back", x, 2, 0, 0, 1, 1);
    }

    private static void moment() {
        NineMinutesMore x = roomOf("ss50,10,0;");
        due("moment over the end of a ROUND", x.moment(0, 30, 30), 48);
        due("moment of several the first", x.moment(0, 0, 30), 0);
        due("moment of one", x.moment(0, 25, 1), 25);
        due("moment going down", x.moment(0, 25, 3), 26);
        due("moment at the end", x.moment(0, 299, 1), 299);
        due("moment to the end", x.moment(0, 270, 30), 298);
        due("moment from below", x.moment(0, -1, 31), -4);
        due("moment of none", x.moment(0, 400, 0), -4);
        due("moment least", x.moment(0, LEAST, LEAST), -4);
        due("moment of 31", x.moment(0, 0, 31), -6);
        due("moment beyond 299", x.moment(0, 271, 30), -6);
        due("moment from 300", x.moment(0, 300, 1), -6);
        due("moment most", x.moment(0, MOST, MOST), -6);
        due("moment from most", x.moment(0, MOST, 1), -6);
        due("moment(1, -1, 0)", x.moment(1, -1, 0), -1);
        due("moment(-1, 0, 31)", x.moment(-1, 0, 31), -1);
        refusals("moment", x, 2, 0, 0, 3, 5);
    }

    private static void week() {
        NineMinutesMore x = roomOf(PRESSER);
        int[] presses = {7, 8, 8, 8, 8, 8, 0};
        int[] tired = {1, 2, 3, 4, 5, 6, 5};
        int all = 0;
        for (int day = 0; day < 7; day++) {
            all += presses[day];
            due("week(0, " + day + ", 0)", x.week(0, day, 0), presses[day]);
            due("week(0, " + day + ", 1)", x.week(0, day, 1), all);
            due("week(0, " + day + ", 2)", x.week(0, day, 2), tired[day]);
        }
        due("TIRED stays", x.count(6), 0);
        due("DAY stays", x.count(7), 0);
        due("week(0, 7, 0)", x.week(0, 7, 0), -1);
        due("week(0, -1, 3)", x.week(0, -1, 3), -1);
        due("week(1, 0, 3)", x.week(1, 0, 3), -1);
        due("week(0, 0, 3)", x.week(0, 0, 3), -2);
        due("week(0, 6, -1)", x.week(0, 6, -1), -2);
        refusals("week", x, 3, 2, 0, 0, 0);
        x.night();
        x.night();
        due("week from DAY 2: DAY 1", x.week(0, 1, 0), -1);
        due("week from DAY 2: all", x.week(0, 3, 1), 16);
        NineMinutesMore nurse = roomOf("ss50,0,0;sn20,20,0;cc1,110,20,15;");
        // depth 10 and half of TIRED till DAY 4; 20 and more on DAYS 5 and 6
        due("week of a NURSE: DAY 4", nurse.week(1, 4, 0), 4);
        due("week of a NURSE: DAY 5", nurse.week(1, 5, 0), 0);
        due("week of a NURSE: TIRED", nurse.week(1, 6, 2), 3);
    }

    private static void row() {
        NineMinutesMore x = new NineMinutesMore();
        due("row(0)", x.row(0), 1);
        due("row(300)", x.row(300), 2);
        due("row(-1)", x.row(-1), -4);
        due("row(301)", x.row(301), -6);
        for (int i = 3; i <= 8; i++) {
            due("row " + i, x.row(i), i);
        }
        due("row 9", x.row(9), -6);
        due("row(-1) of a full one", x.row(-1), -4);
        due("count(8)", x.count(8), 8);
        refusals("row", x, 0, 0, 0, 2, 2);
        due("clear", x.clear(), 8);
        due("clear again", x.clear(), 0);
        due("row behind clear", x.row(1), 1);
    }

    private static void judge() {
        NineMinutesMore x = roomOf(PRESSER);
        due("judge of no ROW", x.judge(0), -9);
        int[] ups = {170, 180, 180, 180, 180, 180, 300, 180};
        for (int up : ups) {
            x.row(up);
        }
        due("judge of what is so", x.judge(0), -9);
        due("the ROW stays", x.count(8), 8);
        due("TIRED stays", x.count(6), 0);
        due("DAY stays", x.count(7), 0);
        x.clear();
        for (int i = 0; i < 8; i++) {
            x.row(i == 6 ? 180 : ups[i]);
        }
        due("judge of the seventh", x.judge(0), 6);
        x.night();
        due("judge on the next DAY", x.judge(0), 0);
        due("judge(1)", x.judge(1), -1);
        due("judge(-1)", x.judge(-1), -1);
        refusals("judge", x, 2, 0, 0, 0, 0);
        NineMinutesMore nurse = roomOf("sn20,20,0;cf0,110,20,15;");
        // on DAYS 5 and 6 DEPTH is 20: never UP; DAY 0 comes behind DAY 6
        for (int i = 0; i < 4; i++) {
            nurse.night();
        }
        int[] days = {130, 300, 300, 130};
        for (int up : days) {
            nurse.row(up);
        }
        due("judge over DAY 6", nurse.judge(0), -9);
    }

    private static void firms() {
        NineMinutesMore x = roomOf("ss50,0,0;cc0,150,10,5;");
        due("firms of no ROW", x.firms(0, 0), 100);
        due("least of no ROW", x.firms(0, 1), 0);
        x.row(160);
        // SPARE is 50 at 150 and 40 at 160
        due("firms", x.firms(0, 0), 10);
        due("least", x.firms(0, 1), 40);
        due("FIRM stays", x.count(5), 30);
        x.row(170);
        due("firms of two DAYS", x.firms(0, 0), 0);
        due("least of none", x.firms(0, 1), -9);
        due("the ROW stays", x.count(8), 2);
        x.clear();
        x.row(150);
        due("firms to 99", x.firms(0, 0), 50);
        due("least of those", x.firms(0, 1), 50);
        x.clear();
        x.row(170);
        x.row(180);
        // 150 and 160 PRESSED: TIRED then, and 171 is the last to be PRESSED with FIRM 30
        due("firms of who tires", x.firms(0, 0), 1);
        due("least of who tires", x.firms(0, 1), 30);
        due("firms(0, 2)", x.firms(0, 2), -2);
        due("firms(0, -1)", x.firms(0, -1), -2);
        due("firms(1, 2)", x.firms(1, 2), -1);
        due("firms(-1, 0)", x.firms(-1, 0), -1);
        refusals("firms", x, 2, 2, 0, 0, 0);
    }

    private static void lots() {
        NineMinutesMore x = roomOf(PRESSER);
        due("lots by SET 263", x.lots(0, 1, 0), 0);
        due("lots by SET 165", x.lots(0, 1, 1), 1);
        due("lots by SET 90, without the sign", x.lots(0, 1, 700), 8);
        int all = 0;
        long z = -5;
        for (int n = 1; n <= 30; n++) {
            z = (int) (z * 1664525 + 1013904223);
            long set = (z & MOST) / 256 % 300;
            all += set < 170 ? (169 - set) / 10 + 1 : 0;
            due("lots of " + n, x.lots(0, n, -5), all);
        }
        due("SET stays", x.clock(0, 2), 100);
        due("TIRED stays", x.count(6), 0);
        due("lots(0, 0, 0)", x.lots(0, 0, 0), -4);
        due("lots(0, 31, 0)", x.lots(0, 31, 0), -6);
        due("lots(1, 0, 0)", x.lots(1, 0, 0), -1);
        due("lots(-1, 31, 0)", x.lots(-1, 31, 0), -1);
        refusals("lots", x, 2, 0, 0, 1, 1);
        // only his own CLOCKS are drawn for, by numbers: the WALKER's is his second DRAW
        NineMinutesMore two = roomOf("ss50,0,0;ss50,0,0;cc1,0,1,5;cf0,0,1,5;cw0,0,1,5;");
        for (int seed = 0; seed < 40; seed++) {
            int one = seed * 1664525 + 1013904223;
            int next = one * 1664525 + 1013904223;
            int far = (one & MOST) / 256 % 300;
            int walker = (next & MOST) / 256 % 300;
            due("lots of two, seed " + seed, two.lots(0, 1, seed), far <= walker && far < 170 ? 1 : 0);
        }
        due("lots without a CLOCK", roomOf("ss50,0,0;").lots(0, 30, 1), 0);
    }

    private static void image() {
        NineMinutesMore x = new NineMinutesMore();
        due("on() without one", x.on(), -3);
        due("image of nothing", x.image(), 0);
        tell(x, PRESSER + "t5,6;b210;f40;");
        x.night();
        due("on() to nothing", x.on(), 0);
        due("no SLEEPERS then", x.count(0), 0);
        due("no CLOCKS then", x.count(1), 0);
        due("no TASKS then", x.count(2), 0);
        due("BUS then", x.count(4), 200);
        due("FIRM then", x.count(5), 30);
        due("TIRED then", x.count(6), 0);
        due("up() then", x.up(0), -1);
        tell(x, PRESSER + "t5,6;b210;f40;");
        x.night();
        x.row(7);
        due("image", x.image(), 1);
        int up = x.up(0);
        x.set(0, 3);
        x.every(0, 4);
        x.bus(5);
        x.firm(6);
        x.tired(7);
        x.night();
        tell(x, "sd30,3,3;cw1,1,1,1;t1,1;");
        x.row(8);
        x.letter('b');
        for (int i = 0; i < 2; i++) {
            due("on", x.on(), 1);
            int[] want = {1, 1, 1, 5, 210, 40, 1, 1, 2, 1, -9, 1, 0, 1, 0, 0, 0};
            for (int what = 0; what < want.length; what++) {
                due("count(" + what + ") behind on", x.count(what), want[what]);
            }
            due("SET behind on", x.clock(0, 2), 100);
            due("EVERY behind on", x.clock(0, 3), 10);
            due("up behind on", x.up(0), up);
            x.set(0, 200 + i);
            x.night();
        }
        due("letters go on", x.letter('7'), 2);
        due("image again", x.image(), 2);
        due("on again", x.on(), 2);
        due("SET of the last image", x.clock(0, 2), 201);
        refusals("image", x, 1, 0, 1, 0, 0);
    }

    private static void count() {
        NineMinutesMore x = roomOf("ss50,0,0;ss50,0,0;cw0,0,1,1;t5,6;t60,7;t9,8;b123;f45;");
        x.tired(6);
        x.night();
        x.row(1);
        x.letter('a');
        x.letter('b');
        int[] want = {2, 1, 3, 74, 123, 45, 5, 1, 1, 2, -9, 0, 0, 0, 0, 0, 0, -9};
        for (int what = 0; what < want.length; what++) {
            due("count(" + what + ")", x.count(what), want[what]);
        }
        int[] others = {LEAST, -1, 10, 17, MOST};
        for (int what : others) {
            due("count(" + what + ")", x.count(what), -9);
        }
        refusals("count is no refusal", x, 0, 0, 0, 0, 0);
        x.value(9);
        x.cost(300);
        x.evening(0, 9);
        x.cost(-1);
        refusals("count of values' refusals", x, 1, 1, 0, 1, 1);
        x.room();
        due("room with nothing in it but a FAULT", x.room(), -1000);
        refusals("count of no FAULT", x, 1, 1, 0, 1, 1);
    }
}
