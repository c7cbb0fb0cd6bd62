/** The edges of letter() and room(): what a text may hold, where each FAULT is, what a FAULT leaves. */
public final class TextEdgeTest {
    private static final String EMPTY = "";
    /** One of each STATEMENT, with its numbers of the fewest and of the most digits. */
    private static final String[] STATEMENTS = {"ss20,0,0;", "sn99,20,30;", "cc0,0,1,0;", "cw3,299,020,030;",
        "t1,0;", "t60,99;", "b0;", "b299;", "f0;", "f99;"};
    private static final char[] NO_SIGNS = {0, ' ', '!', '-', '/', ':', 'S', 127, 128, 233, 255};

    private TextEdgeTest() {
    }

    public static void main(String[] args) {
        lettersTaken();
        lettersRefused();
        fullText();
        firstLetters();
        kinds();
        lacking();
        strangeSigns();
        digits();
        severalStatements();
        ranges();
        owners();
        noRoomForMore();
        behindAllAhead();
        lettersAheadOfRanges();
        faultLeavesAll();
        faultIsNoRefusal();
        numbersFromZero();
        roomsAdd();
        Trial.end("TextEdgeTest");
    }

    private static void lettersTaken() {
        Trial t = new Trial("2: a letter is 0 .. 255");
        for (int c = 0; c < 96; c++) {
            t.due(c + 1, "letter", c);
        }
        Trial u = new Trial("2: a letter is 0 .. 255");
        for (int c = 160; c <= 255; c++) {
            u.due(c - 159, "letter", c);
        }
        u.due(96, "count", 9);
    }

    private static void lettersRefused() {
        Trial t = new Trial("2: below 0 is -4, above 255 is -6");
        t.due(1, "letter", 'f').due(-4, "letter", -1).due(-6, "letter", 256);
        t.due(1, "count", 9).due(1, "count", 14).due(1, "count", 16);
        t.due(2, "letter", '7').due(3, "letter", ';').due(1, "room").due(7, "count", 5);
    }

    private static void fullText() {
        Trial t = new Trial("2: 96 letters at most");
        t.letters("f7;".repeat(31) + "f8").due(96, "letter", ';').due(-6, "letter", ';').due(96, "count", 9);
        t.due(1, "count", 16).due(32, "room").due(8, "count", 5).due(0, "count", 9).due(1, "letter", ';');
        Trial order = new Trial("2: -4 is told ahead of -6");
        order.letters("x".repeat(96)).due(-4, "letter", -1).due(1, "count", 14).due(0, "count", 16);
        Trial both = new Trial("2: above 255 and no room is one refusal");
        both.letters("x".repeat(96)).due(-6, "letter", 256).due(1, "count", 16);
        new Trial("3: a FAULT at the end of a full text").room(-1096, "f7;".repeat(31) + "f77");
        new Trial("3: a FAULT at the last of a full text").room(-1095, "f7;".repeat(31) + "f7x");
        new Trial("3: a STATEMENT's FAULT at the end of a full text").room(-2091, "f7;".repeat(29) + "f07;b300;");
    }

    private static void firstLetters() {
        for (int c = 0; c <= 255; c++) {
            Trial t = new Trial("3: a STATEMENT begins with s, c, t, b or f");
            t.due(1, "letter", c).due("sctbf".indexOf(c) >= 0 ? -1001 : -1000, "room");
            Trial u = new Trial("3: so does each one behind another");
            u.letters("f1;").due(4, "letter", c).due("sctbf".indexOf(c) >= 0 ? -1004 : -1003, "room");
        }
    }

    private static void kinds() {
        for (int c = 0; c <= 255; c++) {
            Trial s = new Trial("3: behind s a letter of a KIND of SLEEPERS");
            s.due(1, "letter", 's').due(2, "letter", c).due("sldobn".indexOf(c) >= 0 ? -1002 : -1001, "room");
            Trial k = new Trial("3: behind c a letter of a KIND of CLOCKS");
            k.due(1, "letter", 'c').due(2, "letter", c).due("cfprqw".indexOf(c) >= 0 ? -1002 : -1001, "room");
        }
        for (int i = 0; i < 6; i++) {
            Trial t = new Trial("4, 5: KIND by its letter");
            t.tell("s" + "sldobn".charAt(i) + "20,0,0;c" + "cfprqw".charAt(i) + "0,0,1,0;");
            t.due(i, "sleeper", 0, 0).due(i, "clock", 0, 0);
        }
    }

    private static void lacking() {
        new Trial("3: at least one STATEMENT").room(-1000, EMPTY);
        Trial twice = new Trial("3: letters are no more behind a ROOM");
        twice.room(1, "f1;").due(0, "count", 9).due(-1000, "room");
        for (String s : STATEMENTS) {
            for (int i = 0; i < s.length(); i++) {
                new Trial("3: the FAULT is the end, if something lacks").room(-1000 - i, s.substring(0, i));
                if (i > 0) {
                    new Trial("3: the end, behind another STATEMENT").room(-1003 - i, "f1;" + s.substring(0, i));
                }
            }
        }
    }

    private static void strangeSigns() {
        for (String s : STATEMENTS) {
            for (int i = 0; i < s.length(); i++) {
                for (char c : NO_SIGNS) {
                    Trial t = new Trial("3: the FAULT is the first letter with which no ROOM can go on");
                    t.room(-1000 - i, s.substring(0, i) + c + s.substring(i + 1));
                }
            }
        }
    }

    private static void digits() {
        String[] texts = {"ss2,0,0;", "ss200,0,0;", "ss20,,0;", "ss20,000,0;", "ss20,0,;", "ss20,0,000;", "ss20,0;",
            "ss20,0,0,", "cc,0,1,0;", "cc00,0,1,0;", "cc0,,1,0;", "cc0,0000,1,0;", "cc0,0,,0;", "cc0,0,0001,0;",
            "cc0,0,1,;", "cc0,0,1,0000;", "cc0,0,1;", "cc0,0,1,0,", "t,0;", "t001,0;", "t1,;", "t1,000;", "t1;",
            "t1,1,",
            "b;", "b0000;", "b1,", "f;", "f000;", "f1,"};
        int[] places = {3, 4, 5, 7, 7, 9, 6,
            8, 2, 3, 4, 7, 6, 9,
            8, 11, 7, 9, 1, 3, 3, 5, 2, 4,
            1, 4, 2, 1, 3, 2};
        for (int i = 0; i < texts.length; i++) {
            new Trial("3: so many digits each").room(-1000 - places[i], texts[i]);
        }
        String[] taken = {"ss20,00,00;", "cc0,000,001,000;", "t01,00;", "b000;", "f00;", "b00;", "b01;"};
        for (String s : taken) {
            new Trial("3: so many digits at most").tell("ss20,0,0;" + s);
        }
    }

    private static void severalStatements() {
        String text = EMPTY;
        for (int n = 1; n <= 32; n++) {
            text += "f1;";
            new Trial("3: how many STATEMENTS").room(n, text);
        }
        new Trial("3: each with ; behind").room(-1003, "f1;;");
        new Trial("3: each with ; behind").room(-1002, "f1b1;");
        new Trial("3: nothing ahead of the first").room(-1000, ";f1;");
        new Trial("3: nothing between two").room(-1003, "f1; f1;");
    }

    /** A room that is full but for one SLEEPER, CLOCK and TASK, so that only the range is at fault. */
    private static void ranges() {
        String[] taken = {"ss20,0,0;", "ss99,0,0;", "ss20,20,0;", "ss20,0,30;", "cc0,0,1,0;", "cc0,299,1,0;",
            "cc0,0,20,0;", "cc0,0,1,30;", "t1,0;", "t60,0;", "t1,99;", "b0;", "b299;", "f0;", "f99;"};
        for (String s : taken) {
            new Trial("3: the least and the greatest number is taken").tell("sl30,1,2;").room(1, s);
        }
        String[] refused = {"ss19,0,0;", "ss00,0,0;", "ss20,21,0;", "ss20,99,0;", "ss20,0,31;", "ss20,0,99;",
            "cc0,300,1,0;", "cc0,999,1,0;", "cc0,0,0,0;", "cc0,0,000,0;", "cc0,0,21,0;", "cc0,0,999,0;",
            "cc0,0,1,31;", "cc0,0,1,999;", "t0,0;", "t00,0;", "t61,0;", "t99,0;", "b300;", "b999;"};
        for (String s : refused) {
            new Trial("3: a number out of range").tell("sl30,1,2;").room(-2000, s);
            new Trial("3: its STATEMENT's first letter").tell("sl30,1,2;").room(-2006, "f1;b2;" + s);
            Trial t = new Trial("3: the first of two at fault").tell("sl30,1,2;");
            t.room(-2003, "f1;" + s + "b300;" + s);
        }
    }

    private static void owners() {
        for (int n = 1; n <= 4; n++) {
            String sleepers = "sl30,1,2;".repeat(n);
            for (int owner = 0; owner <= 9; owner++) {
                String clock = "cc" + owner + ",1,1,1;";
                int fault = -2000 - sleepers.length();
                new Trial("3: no such SLEEPER ahead of it").room(owner < n ? n + 1 : fault, sleepers + clock);
            }
        }
        new Trial("3: a SLEEPER behind it is none ahead").room(-2000, "cc0,1,1,1;sl30,1,2;");
        new Trial("3: a SLEEPER behind it is none ahead").room(-2009, "sl30,1,2;cc1,1,1,1;sl30,1,2;");
        Trial earlier = new Trial("3: a SLEEPER of an earlier ROOM is ahead of it");
        earlier.tell("sl30,1,2;").room(1, "cc0,1,1,1;").room(-2000, "cc1,1,1,1;").due(1, "count", 1);
    }

    private static void noRoomForMore() {
        String s = "sl30,1,2;";
        String c = "cc0,1,1,1;";
        String t = "t1,1;";
        new Trial("3: 4 SLEEPERS").tell(s.repeat(4)).due(4, "count", 0).due(2, "sleeper", 3, 3);
        new Trial("3: no fifth SLEEPER").room(-2036, s.repeat(5)).due(0, "count", 0);
        new Trial("3: no fifth SLEEPER later").tell(s.repeat(4)).room(-2000, s).due(4, "count", 0);
        new Trial("3: 4 CLOCKS").tell(s + c.repeat(4)).due(4, "count", 1).due(1, "clock", 3, 2);
        new Trial("3: no fifth CLOCK").room(-2049, s + c.repeat(5)).due(0, "count", 1);
        new Trial("3: no fifth CLOCK later").tell(s + c.repeat(4)).room(-2000, c).due(4, "count", 1);
        new Trial("3: 6 TASKS").tell(t.repeat(6)).due(6, "count", 2).due(6, "count", 3).due(1, "task", 5, 1);
        new Trial("3: no seventh TASK").room(-2030, t.repeat(7)).due(0, "count", 2);
        new Trial("3: no seventh TASK later").tell(t.repeat(6)).room(-2000, t).due(6, "count", 2);
        new Trial("3: BUS and FIRM have room in a full ROOM").tell(s.repeat(4)).tell(c.repeat(4)).tell(t.repeat(6))
            .room(2, "b7;f8;").due(7, "count", 4).due(8, "count", 5);
    }

    private static void behindAllAhead() {
        String s = "sl30,1,2;";
        Trial t = new Trial("3: as it must be behind all ahead of it in the text").tell(s.repeat(3));
        t.room(-2012, "f1;" + s + s).due(3, "count", 0).room(1, s).due(4, "count", 0);
    }

    private static void lettersAheadOfRanges() {
        new Trial("3: kind 1 is told ahead of kind 2").room(-1009, "ss19,0,0;x");
        new Trial("3: kind 1 is told ahead of kind 2").room(-1010, "ss19,0,0;b");
        new Trial("3: kind 1 is told ahead of kind 2").room(-1008, "cc9,0,0,");
        new Trial("3: kind 1 at the end of a STATEMENT out of range").room(-1008, "ss19,0,0");
    }

    private static void faultLeavesAll() {
        String[] faults = {"ss40,1,1;cc0,1,1,1;t1,1;b1;f1;x", "ss40,1,1;cc0,1,1,1;t1,1;b1;f1;b300;"};
        int[] answers = {-1030, -2030};
        for (int i = 0; i < faults.length; i++) {
            Trial t = new Trial("3: with a FAULT nothing comes, and letters are no more");
            t.tell("so25,3,4;cp0,5,6,7;t8,9;b210;f11;").room(answers[i], faults[i]);
            int[] counts = {1, 1, 1, 8, 210, 11, 0, 0, 0, 0};
            for (int what = 0; what < counts.length; what++) {
                t.due(counts[what], "count", what);
            }
            int[] sleeper = {3, 25, 3, 4};
            int[] clock = {2, 0, 5, 6, 7};
            for (int what = 0; what < 5; what++) {
                t.due(clock[what], "clock", 0, what);
                t.due(what < 4 ? sleeper[what] : -2, "sleeper", 0, what);
            }
            t.due(8, "task", 0, 0).due(9, "task", 0, 1).due(-1, "task", 1, 0).due(-1, "clock", 1, 0);
            t.tell("sd50,6,7;cw1,8,9,10;t2,3;").due(2, "sleeper", 1, 0).due(50, "sleeper", 1, 1);
            t.due(1, "clock", 1, 1).due(8, "clock", 1, 2).due(2, "task", 1, 0).due(3, "task", 1, 1);
        }
        Trial fresh = new Trial("3: with a FAULT a new object stays as it was");
        fresh.room(-2030, faults[1]);
        int[] counts = {0, 0, 0, 0, 200, 30, 0, 0, 0, 0};
        for (int what = 0; what < counts.length; what++) {
            fresh.due(counts[what], "count", what);
        }
    }

    private static void faultIsNoRefusal() {
        Trial t = new Trial("3: a FAULT is not counted");
        t.room(-1000, EMPTY).room(-1001, "s").room(-2000, "b300;").room(-1000, "x");
        for (int what = 11; what <= 16; what++) {
            t.due(0, "count", what);
        }
    }

    private static void numbersFromZero() {
        Trial t = new Trial("3: numbers may begin with 0");
        t.tell("ss20,01,02;cc0,003,004,005;t06,07;b008;f09;");
        t.due(1, "sleeper", 0, 2).due(2, "sleeper", 0, 3).due(3, "clock", 0, 2).due(4, "clock", 0, 3);
        t.due(5, "clock", 0, 4).due(6, "task", 0, 0).due(7, "task", 0, 1).due(8, "count", 4).due(9, "count", 5);
        Trial u = new Trial("3: numbers of one digit less");
        u.tell("ss20,1,2;cc0,03,04,05;t6,7;b08;f9;").due(3, "clock", 0, 2).due(4, "clock", 0, 3);
        u.due(5, "clock", 0, 4).due(8, "count", 4);
    }

    private static void roomsAdd() {
        Trial t = new Trial("3: SLEEPERS, CLOCKS and TASKS come to those that are");
        for (int i = 0; i < 4; i++) {
            t.tell("ss2" + i + ",0,0;cc" + i + "," + i + ",1,0;t1," + i + ";");
        }
        for (int i = 0; i < 4; i++) {
            t.due(20 + i, "sleeper", i, 1).due(i, "clock", i, 1).due(i, "clock", i, 2).due(i, "task", i, 1);
        }
        t.due(-1, "sleeper", 4, 1).due(-1, "clock", 4, 1).due(-1, "task", 4, 1);
        Trial last = new Trial("3: the last BUS and FIRM of a text stay");
        last.tell("b1;f2;b3;f4;").due(3, "count", 4).due(4, "count", 5);
    }
}
