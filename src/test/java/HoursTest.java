/** Promises 9 to 13: hours. */
public final class HoursTest {
    private static final Check CHECK = new Check();
    private static final String STILL = "sky 200 200 0;sun 0;house 0 0 0 0";

    public static void main(String[] args) {
        warmRefusals();
        houseAtFirst();
        warmBySun();
        warmByFolkAndWall();
        warmByDoors();
        warmByTheLeastAndTheMost();
        warmByTheShutter();
        homeFromOneHourToItself();
        warmByWindow();
        windowHabits();
        nobodyAtHome();
        night();
        above();
        aboveOfRows();
        costs();
        clock();
        betterThanTheGlass();
        CHECK.end();
    }

    private static HotWeek house(String... texts) {
        HotWeek x = new HotWeek();
        for (String text : texts) {
            CHECK.tell(x, text);
        }
        return x;
    }

    private static void warmRefusals() {
        HotWeek x = house("room 1 250 240 0 0");
        CHECK.due("warm(0, 0, 0)", x.warm(0, 0, 0), HotWeek.UNKNOWN);
        CHECK.due("warm(0, 0, 9)", x.warm(0, 0, 9), HotWeek.UNKNOWN);
        CHECK.due("warm(5, 0, 0)", x.warm(5, 0, 0), HotWeek.UNKNOWN);
        CHECK.due("warm(-1, 0, 0)", x.warm(-1, 0, 0), HotWeek.UNKNOWN);
        CHECK.due("warm(1, 96, 0)", x.warm(1, 96, 0), HotWeek.UNKNOWN);
        CHECK.due("warm(1, -1, 9)", x.warm(1, -1, 9), HotWeek.UNKNOWN);
        CHECK.due("warm(1, max, 0)", x.warm(1, Integer.MAX_VALUE, 0), HotWeek.UNKNOWN);
        CHECK.due("warm(1, 0, 3)", x.warm(1, 0, 3), HotWeek.OUTSIDE);
        CHECK.due("warm(1, 0, -1)", x.warm(1, 0, -1), HotWeek.OUTSIDE);
        // as told at first: AIR by -10 * 10 / 100, WALL by 10 * 20 / 100 and (233 - 240) * 3 / 100
        CHECK.due("warm(1, 0, 0)", x.warm(1, 0, 0), 249);
        CHECK.due("warm(1, 0, 1)", x.warm(1, 0, 1), 242);
        CHECK.due("warm(1, 0, 2)", x.warm(1, 0, 2), 0);
    }

    /** SUN 20, TAKES 20, GIVES 10, LEAKS 3, WINDOW 40, each seen alone. */
    private static void houseAtFirst() {
        HotWeek x = house("sky 0 0 0;house 0 0 0 0;room 0 0 0 1 0");
        CHECK.due("SUN at first", x.warm(0, 6, 0), 20);
        x = house("sky 0 0 0;sun 0;room 0 600 0 0 0;room 1 0 600 0 0;room 2 600 600 0 0;habit 2 2");
        CHECK.due("TAKES at first", x.warm(0, 0, 1), 120);
        CHECK.due("GIVES at first", x.warm(1, 0, 0), 60);
        CHECK.due("TAKES and LEAKS at first", x.warm(1, 0, 1), 600 - 120 - 18);
        CHECK.due("LEAKS at first", x.warm(2, 0, 1), 600 - 18);
        CHECK.due("WINDOW at first", x.warm(2, 0, 0), 600 - 240);
    }

    /** The sun by side, from its first hour through its last; with the shutter down a quarter. */
    private static void warmBySun() {
        HotWeek x = house(STILL, "sun 99;room 0 0 0 0 0;room 1 0 0 1 0;room 2 0 0 2 0;room 3 0 0 3 0",
                "shut 1 7 9;shut 2 15 10");
        int[][] span = {{24, 24}, {6, 10}, {10, 15}, {15, 19}};
        for (int r = 0; r < 4; r++) {
            int air = 0;
            for (int hour = 0; hour < 96; hour++) {
                int h = hour % 24;
                boolean shut = r == 1 && (h == 7 || h == 8) || r == 2 && (h >= 15 || h < 10);
                if (h >= span[r][0] && h <= span[r][1]) {
                    air += shut ? 24 : 99;
                }
                CHECK.due("sun in room " + r + " behind " + hour, x.warm(r, hour, 0), air);
            }
        }
    }

    private static void warmByFolkAndWall() {
        HotWeek x = house(STILL, "room 0 250 250 0 9;home 22 1");
        CHECK.due("folk at 0", x.warm(0, 0, 0), 268);
        CHECK.due("no folk at 1", x.warm(0, 1, 0), 268);
        CHECK.due("no folk till 21", x.warm(0, 21, 0), 268);
        CHECK.due("folk at 22", x.warm(0, 22, 0), 286);
        CHECK.due("folk three hours a day", x.warm(0, 95, 0), 250 + 12 * 18);
        x = house("sky 0 0 0;sun 0;house 30 40 20 0;room 0 109 200 0 0;room 1 200 109 0 0;room 2 0 4 0 0");
        // 91 * 40 / 100 is 36; -91 * 30 / 100 is -27, cut towards 0, and -200 * 20 / 100
        CHECK.due("AIR from WALL", x.warm(0, 0, 0), 145);
        CHECK.due("WALL to AIR and OUT", x.warm(0, 0, 1), 200 - 27 - 40);
        CHECK.due("AIR to WALL", x.warm(1, 0, 0), 164);
        CHECK.due("WALL from AIR, to OUT", x.warm(1, 0, 1), 109 + 27 - 21);
        CHECK.due("AIR, less than one cut", x.warm(2, 0, 0), 1);
        CHECK.due("WALL, less than one cut", x.warm(2, 0, 1), 3);
    }

    private static void warmByDoors() {
        HotWeek x = house(STILL, "room 0 250 0 0 0;room 1 301 0 0 0;room 2 199 0 0 0;door 0 1 10;door 0 2 7;door 0 3 9");
        // all at once: 51 * 10 / 100 and -51 * 7 / 100, each cut; room 3 is not told
        CHECK.due("two doors", x.warm(0, 0, 0), 250 + 5 - 3);
        CHECK.due("door from 0 to 1", x.warm(1, 0, 0), 301 - 5);
        CHECK.due("door from 0 to 2", x.warm(2, 0, 0), 199 + 3);
        CHECK.due("and the next hour", x.warm(0, 1, 0), 252 + 4 - 3);
        CHECK.tell(x, "room 3 600 0 0 0");
        CHECK.due("a third door", x.warm(0, 0, 0), 250 + 5 - 3 + 31);
        CHECK.tell(x, "bare 3");
        CHECK.due("the room behind it is bare", x.warm(0, 0, 0), 250 + 5 - 3);
    }

    /** Each share at its bounds, 0 and the most, between the least and the most AIR and WALL. */
    private static void warmByTheLeastAndTheMost() {
        HotWeek x = house(STILL, "room 0 0 600 0 0;room 4 600 0 0 0;habit 4 2;habit 0 2");
        for (int hour : new int[] {0, 1, 94, 95}) {
            CHECK.due("nothing passes, AIR 0", x.warm(0, hour, 0), 0);
            CHECK.due("nothing passes, WALL 600", x.warm(0, hour, 1), 600);
            CHECK.due("nothing passes, AIR 600", x.warm(4, hour, 0), 600);
            CHECK.due("nothing passes, WALL 0", x.warm(4, hour, 1), 0);
            CHECK.due("the window is open", x.warm(4, hour, 2), 1);
        }
        x = house("sky 500 500 0;sun 0;house 40 40 20 40;room 2 0 600 0 0;habit 2 2;room 3 600 0 0 0;habit 3 2");
        CHECK.due("GIVES 40 and WINDOW 40", x.warm(2, 0, 0), 240 + 200);
        CHECK.due("TAKES 40 and LEAKS 20", x.warm(2, 0, 1), 600 - 240 - 20);
        CHECK.due("GIVES 40 and WINDOW 40, less", x.warm(3, 0, 0), 600 - 240 - 40);
        CHECK.due("TAKES 40 and LEAKS 20, more", x.warm(3, 0, 1), 240 + 100);
        // 99 by 40, by 100: 39.6 is cut; more than that would not be
        x = house("sky 99 99 0;sun 0;house 40 40 20 40;room 2 0 99 0 0;habit 2 2;room 3 99 0 0 0;habit 3 3");
        CHECK.due("GIVES and WINDOW, cut", x.warm(2, 0, 0), 39 + 39);
        CHECK.due("TAKES, cut", x.warm(2, 0, 1), 99 - 39);
        CHECK.due("TAKES and LEAKS, cut", x.warm(3, 0, 1), 39 + 19);
        int[][] doors = {{0, 600, 1, 6}, {0, 600, 10, 60}, {0, 600, 0, 0}, {0, 99, 10, 9}, {0, 99, 1, 0},
            {0, 100, 1, 1}, {600, 0, 1, -6}, {600, 0, 10, -60}, {199, 100, 10, -9}, {199, 100, 1, 0}};
        for (int[] d : doors) {
            x = house(STILL, "room 0 " + d[0] + " 0 0 0;room 4 " + d[1] + " 0 0 0;door 4 0 " + d[2]);
            CHECK.due("door that lets " + d[2] + " pass to " + d[0], x.warm(0, 0, 0), d[0] + d[3]);
            CHECK.due("door that lets " + d[2] + " pass to " + d[1], x.warm(4, 0, 0), d[1] - d[3]);
        }
    }

    /** With the shutter down a quarter, cut: of less than four nothing. */
    private static void warmByTheShutter() {
        int[][] suns = {{0, 0, 0}, {3, 3, 0}, {4, 4, 1}, {7, 7, 1}, {98, 98, 24}, {99, 99, 24}};
        for (int[] s : suns) {
            HotWeek x = house(STILL, "sun " + s[0] + ";room 0 0 0 1 0;room 1 0 0 1 0;shut 1 6 7;room 2 0 0 1 0;shut 2 7 6");
            CHECK.due("sun " + s[0], x.warm(0, 6, 0), s[1]);
            CHECK.due("sun " + s[0] + ", shut 6 7 at 6", x.warm(1, 6, 0), s[2]);
            CHECK.due("sun " + s[0] + ", shut 6 7 at 7", x.warm(1, 7, 0), s[2] + s[1]);
            CHECK.due("sun " + s[0] + ", shut 7 6 at 6", x.warm(2, 6, 0), s[1]);
            CHECK.due("sun " + s[0] + ", shut 7 6 at 7", x.warm(2, 7, 0), s[1] + s[2]);
        }
        // whatever the window's habit is, and with nobody at home as well
        for (int habit = 0; habit < 4; habit++) {
            HotWeek x = house(STILL, "sun 8;room 0 0 0 2 0;shut 0 0 23;home 23 0;habit 0 " + habit);
            CHECK.due("shut by habit " + habit, x.warm(0, 10, 0), 2);
        }
    }

    private static void homeFromOneHourToItself() {
        for (int a = 0; a < 24; a++) {
            HotWeek x = house(STILL, "room 0 0 0 0 1;room 1 0 0 0 0;habit 1 2;home " + a + " " + a);
            for (int hour : new int[] {0, a, 23, 24, 95}) {
                CHECK.due("folk behind " + hour, x.warm(0, hour, 0), 2 * hour + 2);
                CHECK.due("no folk behind " + hour, x.warm(1, hour, 0), 0);
                CHECK.due("open in " + hour, x.warm(1, hour, 2), 1);
            }
        }
    }

    private static void warmByWindow() {
        HotWeek x = house(STILL, "house 0 0 0 25;room 0 297 0 0 0;open 0 2 4;room 1 103 0 0 0;open 1 1 2");
        CHECK.due("shut at 1", x.warm(0, 1, 0), 297);
        CHECK.due("shut at 1 (2)", x.warm(0, 1, 2), 0);
        CHECK.due("open at 2", x.warm(0, 2, 0), 297 - 24);
        CHECK.due("open at 2 (2)", x.warm(0, 2, 2), 1);
        CHECK.due("open at 3", x.warm(0, 3, 0), 273 - 18);
        CHECK.due("shut at 4", x.warm(0, 4, 0), 255);
        CHECK.due("shut at 4 (2)", x.warm(0, 4, 2), 0);
        CHECK.due("open at 26", x.warm(0, 26, 2), 1);
        CHECK.due("warmer from without", x.warm(1, 1, 0), 103 + 24);
        CHECK.tell(x, "home 3 2");
        CHECK.due("nobody at home at 2", x.warm(0, 2, 2), 0);
        CHECK.due("somebody at home at 3", x.warm(0, 3, 2), 1);
    }

    private static void windowHabits() {
        HotWeek x = house("sky 200 200 0;sun 0;house 0 0 0 40;room 0 201 0 0 0;room 1 200 0 0 0;room 2 199 0 0 0",
                "habit 0 1;habit 1 1;habit 2 1");
        CHECK.due("by GLASS, warmer within", x.warm(0, 0, 2), 1);
        CHECK.due("by GLASS, alike", x.warm(1, 0, 2), 0);
        CHECK.due("by GLASS, warmer without", x.warm(2, 0, 2), 0);
        CHECK.tell(x, "habit 1 2;habit 2 3;habit 0 0;open 2 0 23");
        CHECK.due("ALWAYS", x.warm(1, 0, 2), 1);
        CHECK.due("NEVER", x.warm(2, 0, 2), 0);
        CHECK.due("CLOCK", x.warm(0, 0, 2), 0);
        CHECK.tell(x, "home 1 0");
        CHECK.due("ALWAYS, but nobody at home", x.warm(1, 24, 2), 0);
        CHECK.due("ALWAYS", x.warm(1, 25, 2), 1);
        // by GLASS, what is read is the AIR ahead of the hour: folk make 200 to 202 in hour 0
        x = house("sky 200 200 0;sun 0;house 0 0 0 40;room 0 200 0 0 1;habit 0 1");
        CHECK.due("GLASS in 0", x.warm(0, 0, 2), 0);
        CHECK.due("GLASS in 1", x.warm(0, 1, 2), 1);
    }

    /** A window is open only if someone is at home, by whatever habit. */
    private static void nobodyAtHome() {
        HotWeek x = house("sky 0 0 0;sun 0;house 0 0 0 1;room 0 600 0 0 0;room 1 600 0 0 0;room 2 600 0 0 0",
                "room 3 600 0 0 0;open 0 0 23;habit 1 1;habit 2 2;habit 3 3;home 9 11");
        int[] by8 = {0, 0, 0, 0};
        int[] by9 = {1, 1, 1, 0};
        for (int r = 0; r < 4; r++) {
            CHECK.due("room " + r + " in 8", x.warm(r, 8, 2), by8[r]);
            CHECK.due("room " + r + " in 9", x.warm(r, 9, 2), by9[r]);
            CHECK.due("room " + r + " in 10", x.warm(r, 10, 2), by9[r]);
            CHECK.due("room " + r + " in 11", x.warm(r, 11, 2), by8[r]);
            CHECK.due("room " + r + " in 0", x.warm(r, 0, 2), by8[r]);
            CHECK.due("room " + r + " in 95", x.warm(r, 95, 2), by8[r]);
            CHECK.due("room " + r + " behind 8", x.warm(r, 8, 0), 600);
            CHECK.due("room " + r + " behind 11", x.warm(r, 11, 0), r < 3 ? 600 - 6 - 5 : 600);
        }
    }

    private static void night() {
        // nine folk for one hour a day: 18 an hour h; behind hours 0 .. h - 1 it is not there yet
        for (int h = 0; h < 24; h++) {
            HotWeek x = house(STILL, "room 2 0 0 0 9;home " + h + " " + (h + 1) % 24);
            int want = 0;
            for (int hour = 0; hour < 96; hour++) {
                if (hour % 24 <= 5 || hour % 24 >= 22) {
                    want += 18 * ((hour + 24 - h) / 24);
                }
            }
            CHECK.due("night(2), folk at " + h, x.night(2), want);
        }
        HotWeek x = house(STILL, "room 0 100 0 0 0;room 4 201 0 0 0");
        CHECK.due("night(0)", x.night(0), 3200);
        CHECK.due("night(4)", x.night(4), 32 * 201);
        CHECK.due("night(NONE)", x.night(HotWeek.NONE), 32 * 301);
        CHECK.due("night(1)", x.night(1), HotWeek.UNKNOWN);
        CHECK.due("night(5)", x.night(5), HotWeek.UNKNOWN);
        CHECK.due("night(-2)", x.night(-2), HotWeek.UNKNOWN);
        CHECK.tell(x, "bare 0");
        CHECK.due("night(NONE), one bare", x.night(HotWeek.NONE), 32 * 201);
    }

    private static void above() {
        HotWeek x = house("sky 0 0 0;sun 0;house 0 0 0 40;room 1 100 0 0 9;home 8 10;habit 1 3");
        CHECK.due("above 99", x.above(1, 99), 96);
        CHECK.due("above 100: from hour 8", x.above(1, 100), 88);
        CHECK.due("above 118: from hour 9", x.above(1, 118), 87);
        CHECK.due("above 243", x.above(1, 243), 15);
        CHECK.due("above 244", x.above(1, 244), 0);
        CHECK.due("above -999", x.above(1, -999), 96);
        CHECK.due("above 9999", x.above(1, 9999), 0);
        CHECK.due("above -1000", x.above(1, -1000), HotWeek.OUTSIDE);
        CHECK.due("above 10000", x.above(1, 10000), HotWeek.OUTSIDE);
        CHECK.due("above(0, 10000)", x.above(0, 10000), HotWeek.UNKNOWN);
        CHECK.due("above(-1, 0)", x.above(-1, 0), HotWeek.UNKNOWN);
        // the walls hold 0, the air falls and rises each day: the longest row, not all together
        x = house("sky 0 0 0;sun 99;house 0 40 0 0;room 0 200 0 1 0");
        int longest = 0;
        int all = 0;
        for (int hour = 0, row = 0; hour < 96; hour++) {
            boolean is = x.warm(0, hour, 0) > 60;
            row = is ? row + 1 : 0;
            all += is ? 1 : 0;
            longest = Math.max(longest, row);
        }
        CHECK.due("the longest row", x.above(0, 60), longest);
        CHECK.due("which is not all", longest < all && longest > 1 ? 1 : 0, 1);
    }

    private static void aboveOfRows() {
        // 600, open: 360, 216, 130, 78, .. behind hours 0, 1, ..
        HotWeek x = house("sky 0 0 0;sun 0;house 0 0 0 40;room 0 600 0 0 0;habit 0 2;room 4 600 0 0 0;habit 4 3");
        int[][] rows = {{360, 0}, {359, 1}, {216, 1}, {215, 2}, {130, 2}, {129, 3}, {78, 3}, {77, 4}, {-1, 96}};
        for (int[] row : rows) {
            CHECK.due("the row at the beginning, above " + row[0], x.above(0, row[0]), row[1]);
        }
        CHECK.due("all hours, above 599", x.above(4, 599), 96);
        CHECK.due("no hour, above 600", x.above(4, 600), 0);
        CHECK.due("above(0, max)", x.above(0, Integer.MAX_VALUE), HotWeek.OUTSIDE);
        CHECK.due("above(0, min)", x.above(0, Integer.MIN_VALUE), HotWeek.OUTSIDE);
        CHECK.due("above(5, 0)", x.above(5, 0), HotWeek.UNKNOWN);
        // by 95 alone: the day's one hour with folk is the last
        x = house(STILL, "room 0 0 0 0 1;home 23 0");
        CHECK.due("the row at the end", x.above(0, 7), 1);
        CHECK.due("the row from 71 on", x.above(0, 5), 25);
        // OUT is 50 below nothing in hour 0, and none in hour 24
        x = house("sky 0 0 50;sun 0;house 0 0 0 40;room 0 0 0 0 0;habit 0 2;home 0 1");
        CHECK.due("AIR below nothing", x.warm(0, 0, 0), -20);
        CHECK.due("above -20", x.above(0, -20), 72);
        CHECK.due("above -21", x.above(0, -21), 96);
    }

    private static void costs() {
        HotWeek x = house("sky 200 200 0;sun 0;house 0 0 0 25;room 0 204 0 0 0;room 1 100 0 0 0;habit 1 1;habit 0 3");
        // by GLASS it would be 203, 203, .. (4 * 25 / 100, then 3 * 25 / 100 cut)
        CHECK.due("costs(0)", x.costs(0), 10000000 + 32);
        CHECK.due("costs(1), by GLASS", x.costs(1), 10000000);
        CHECK.due("night stays", x.night(0), 32 * 204);
        CHECK.due("habit stays", x.room(0, 4), 3);
        CHECK.due("costs(2)", x.costs(2), HotWeek.UNKNOWN);
        CHECK.due("costs(NONE)", x.costs(HotWeek.NONE), HotWeek.UNKNOWN);
        CHECK.due("costs(5)", x.costs(5), HotWeek.UNKNOWN);
        // a habit may be better than the glass: it warms the neighbour less
        CHECK.tell(x, "habit 1 2");
        CHECK.due("costs(1), ALWAYS", x.costs(1) > 10000000 ? 1 : 0, 1);
        x = house("sky 0 400 0;sun 0;house 40 40 0 40;room 0 600 600 0 0;habit 0 1;room 1 0 0 0 0;habit 1 3;door 0 1 10");
        int asItIs = x.night(HotWeek.NONE);
        int costs = x.costs(0);
        CHECK.tell(x, "habit 0 0;open 0 0 23");
        int byClock = x.night(HotWeek.NONE);
        CHECK.due("costs, GLASS already", costs, 10000000);
        CHECK.due("costs of another", x.costs(0), 10000000 + byClock - asItIs);
    }

    private static void clock() {
        HotWeek x = house("sky 200 200 0;sun 0;house 0 0 0 25;room 0 204 0 0 0;open 0 3 4;habit 0 2");
        // 203 once it was open; best from the first hour on
        CHECK.due("clock(0)", x.clock(0), 0);
        CHECK.due("clock(1)", x.clock(1), 1);
        CHECK.due("clock(2)", x.clock(2), 32 * 203);
        CHECK.due("clock(3)", x.clock(3), 10000000);
        CHECK.due("clock(4)", x.clock(4), HotWeek.OUTSIDE);
        CHECK.due("clock(-1)", x.clock(-1), HotWeek.OUTSIDE);
        CHECK.due("clock as told stays", x.room(0, 5), 8);
        CHECK.tell(x, "room 0 200 0 0 0");
        CHECK.due("nothing to win, clock(0)", x.clock(0), 0);
        CHECK.due("nothing to win, clock(1)", x.clock(1), 0);
        CHECK.tell(x, "room 0 100 0 0 0");
        CHECK.due("colder within, clock(1)", x.clock(1), 0);
        CHECK.due("colder within, clock(2)", x.clock(2), 3200);
        CHECK.tell(x, "room 0 600 0 0 0;home 7 9");
        CHECK.due("at home 7 and 8, clock(0)", x.clock(0), 0);
        CHECK.due("at home 7 and 8, clock(1)", x.clock(1), 9);
        CHECK.tell(x, "room 0 600 0 0 0;home 23 1");
        CHECK.due("at home 23 and 0, clock(0)", x.clock(0), 2);
        CHECK.due("at home 23 and 0, clock(1)", x.clock(1), 1);
        CHECK.due("as near as the glass", x.clock(3), 10000000);
        CHECK.tell(x, "bare 0");
        CHECK.due("no rooms", x.clock(2), 0);
        // the clock beats the glass where what is let in by day is given back by the walls
        HotWeek y = house("room 0 300 300 3 2;shut 0 12 20;room 1 280 280 1 2;door 0 1 5");
        int best = y.clock(2);
        int from = y.clock(0);
        int to = y.clock(1);
        int near = y.clock(3) - 10000000;
        CHECK.tell(y, "open 0 " + from + " " + to + ";open 1 " + from + " " + to);
        CHECK.due("night by the best clock", y.night(HotWeek.NONE), best);
        CHECK.tell(y, "habit 0 1;habit 1 1");
        CHECK.due("night by the glass", y.night(HotWeek.NONE), best - near);
    }

    /** What is cut may make a habit better than the glass: less than nothing, and 10000000. */
    private static void betterThanTheGlass() {
        // open in hour 1 alone: 104 to 103, then by wall and window to 101, where it stays; by the glass
        // it is 102 behind hour 0, and 2 * 40 / 100 is cut, so that it stays there
        HotWeek x = house("sky 100 100 0;sun 0;house 0 40 0 40;home 0 2;room 0 104 100 0 0;open 0 1 2");
        CHECK.due("night, open in 1", x.night(0), 103 + 31 * 101);
        CHECK.due("costs below nothing", x.costs(0), 10000000 + 103 + 31 * 101 - 32 * 102);
        CHECK.due("clock(0)", x.clock(0), 1);
        CHECK.due("clock(1), the least B", x.clock(1), 0);
        CHECK.due("clock(2)", x.clock(2), 103 + 31 * 101);
        CHECK.due("near below nothing", x.clock(3), 10000000 + 103 + 31 * 101 - 32 * 102);
        CHECK.due("clock(max)", x.clock(Integer.MAX_VALUE), HotWeek.OUTSIDE);
        CHECK.due("clock(min)", x.clock(Integer.MIN_VALUE), HotWeek.OUTSIDE);
        // someone is at home for one hour of the day: A is 0, but for hour 23, which no row from 0 on holds
        for (int hour = 0; hour < 24; hour++) {
            x = house("sky 0 0 0;sun 0;house 0 0 0 40;room 3 600 0 0 0;home " + hour + " " + (hour + 1) % 24);
            CHECK.due("home at " + hour + ", clock(0)", x.clock(0), hour == 23 ? 1 : 0);
            CHECK.due("home at " + hour + ", clock(1)", x.clock(1), hour == 23 ? 0 : hour + 1);
            CHECK.due("home at " + hour + ", as near as the glass", x.clock(3), 10000000);
        }
    }
}
