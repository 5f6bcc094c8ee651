/** Promises 14 to 17: works, and the law learnt from read glasses. */
public final class WorksTest {
    private static final Check CHECK = new Check();

    public static void main(String[] args) {
        work();
        works();
        worksOneBehindTheOther();
        worksOfTheLeastAndTheMost();
        worksForWhatTheyCost();
        worksOfSeveralTheLeastNumber();
        read();
        learnt();
        learntAtTheCorners();
        learntAtMostSoMuchOff();
        learntOfTheLastRow();
        learntRefusals();
        CHECK.end();
    }

    private static void work() {
        HotWeek x = new HotWeek();
        CHECK.due("work(5, 0, ..)", x.work(5, 0, 0, 0), HotWeek.UNKNOWN);
        CHECK.due("work(-1, ..)", x.work(-1, 1, 0, 0), HotWeek.UNKNOWN);
        int[][] outside = {{0, 0, 0}, {1000, 0, 0}, {1, -1, 0}, {1, 101, 0}, {1, 0, -1}, {1, 0, 21}};
        for (int[] o : outside) {
            CHECK.due("work outside", x.work(0, o[0], o[1], o[2]), HotWeek.OUTSIDE);
        }
        CHECK.due("no works", x.count(2), 0);
        CHECK.due("work 0", x.work(0, 1, 0, 0), 0);
        CHECK.due("work 1", x.work(4, 999, 100, 20), 1);
        for (int i = 2; i < 6; i++) {
            CHECK.due("work " + i, x.work(1, 5, 5, 5), i);
        }
        CHECK.due("work 6", x.work(1, 5, 5, 5), HotWeek.FULL);
        CHECK.due("OUTSIDE ahead of FULL", x.work(1, 0, 5, 5), HotWeek.OUTSIDE);
        CHECK.due("UNKNOWN ahead of FULL", x.work(5, 5, 5, 5), HotWeek.UNKNOWN);
        CHECK.due("six works", x.count(2), 6);
    }

    private static void works() {
        HotWeek x = new HotWeek();
        CHECK.tell(x, "sky 0 0 0;sun 40;house 0 0 0 0;room 0 0 0 1 0;room 1 0 0 1 0");
        // east sun at 5 hours a day: behind them 2 + 8 + 8 + 8 night hours a day's sun is there
        int day = 5 * 40;
        int full = day * (2 + 10 + 18 + 26);
        CHECK.due("none yet, the set", x.works(9999, 0), 0);
        CHECK.due("none yet, the night", x.works(9999, 1), 2 * full);
        x.work(0, 10, 50, 0);
        x.work(1, 10, 50, 0);
        x.work(1, 20, 75, 0);
        x.work(3, 1, 100, 20);
        CHECK.due("for 9", x.works(9, 0), 0);
        CHECK.due("for 9, the night", x.works(9, 1), 2 * full);
        CHECK.due("for 10, the least number", x.works(10, 0), 1);
        CHECK.due("for 10, the night", x.works(10, 1), full + full / 2);
        CHECK.due("for 20, work 2 is worse", x.works(20, 0), 3);
        CHECK.due("for 29", x.works(29, 0), 3);
        CHECK.due("for 30", x.works(30, 0), 5);
        CHECK.due("for 30, the night", x.works(30, 1), full / 2 + full / 4);
        CHECK.due("for 40", x.works(40, 0), 7);
        CHECK.due("for 40, the night", x.works(40, 1), full / 2 + full / 8);
        CHECK.due("for 9999, no room 3", x.works(9999, 0), 7);
        CHECK.due("works(-1, 0)", x.works(-1, 0), HotWeek.OUTSIDE);
        CHECK.due("works(10000, 0)", x.works(10000, 0), HotWeek.OUTSIDE);
        CHECK.due("works(0, 2)", x.works(0, 2), HotWeek.OUTSIDE);
        CHECK.due("works(0, -1)", x.works(0, -1), HotWeek.OUTSIDE);
        CHECK.due("the house stays", x.night(HotWeek.NONE), 2 * full);
    }

    private static void worksOneBehindTheOther() {
        HotWeek x = new HotWeek();
        CHECK.tell(x, "sky 0 0 0;sun 99;house 0 0 0 0;room 0 0 0 1 0;shut 0 6 11");
        int times = 5 * (2 + 10 + 18 + 26);
        x.work(0, 1, 10, 0);
        x.work(0, 1, 33, 0);
        // behind the shutter 24, then 24 * 90 / 100 is 21, then 21 * 67 / 100 is 14
        CHECK.due("the sun, by one", x.works(1, 1), 24 * 67 / 100 * times);
        CHECK.due("the sun, by both", x.works(2, 1), 14 * times);
        CHECK.due("both", x.works(2, 0), 3);
        // LEAKS 20 less 15, less 15: 0, not below
        HotWeek y = new HotWeek();
        CHECK.tell(y, "sky 500 500 0;sun 0;house 0 40 20 0;room 0 0 0 0 0");
        y.work(0, 1, 0, 15);
        y.work(0, 1, 0, 15);
        CHECK.due("leaks, by one", y.works(1, 0), 1);
        CHECK.due("leaks, by both", y.works(2, 0), 3);
        CHECK.due("leaks, night by both", y.works(2, 1), 0);
        CHECK.due("leaks, night by none is more", y.works(0, 1) > y.works(1, 1) ? 1 : 0, 1);
        // a work that keeps warmth in is not taken
        CHECK.tell(y, "sky 0 0 0;room 0 600 600 0 0");
        CHECK.due("leaks that cool", y.works(9999, 0), 0);
    }

    /** What is left of the sun of one east room is seen by its night; so are LEAKS, by a room that has no sun. */
    private static void worksOfTheLeastAndTheMost() {
        int times = 5 * (2 + 10 + 18 + 26);
        int[][] suns = {{0, 99, 99}, {1, 99, 98}, {10, 99, 89}, {50, 99, 49}, {98, 99, 1}, {99, 99, 0}, {100, 99, 0},
            {0, 1, 1}, {1, 1, 0}, {0, 0, 0}, {100, 0, 0}, {75, 4, 1}, {76, 4, 0}};
        for (int[] s : suns) {
            HotWeek x = new HotWeek();
            CHECK.tell(x, "sky 0 0 0;sun " + s[1] + ";house 0 0 0 0;room 4 0 0 1 0");
            CHECK.due("work", x.work(4, 1, s[0], 0), 0);
            CHECK.due("sun " + s[1] + ", " + s[0] + " hundredths less", x.works(1, 1), s[2] * times);
            CHECK.due("is taken if it is less", x.works(1, 0), s[2] < s[1] ? 1 : 0);
        }
        // LEAKS so many less, 0 at least: as if the house were told with what is left
        int[][] leaks = {{20, 0, 20}, {20, 1, 19}, {20, 19, 1}, {20, 20, 0}, {3, 2, 1}, {3, 3, 0}, {3, 4, 0}, {0, 20, 0}};
        for (int[] l : leaks) {
            HotWeek x = new HotWeek();
            HotWeek y = new HotWeek();
            CHECK.tell(x, "sky 500 500 0;sun 0;house 0 40 " + l[0] + " 0;room 0 0 0 0 0");
            CHECK.tell(y, "sky 500 500 0;sun 0;house 0 40 " + l[2] + " 0;room 0 0 0 0 0");
            x.work(0, 1, 0, l[1]);
            CHECK.due("leaks " + l[0] + ", " + l[1] + " less", x.works(1, 1), y.night(0));
            CHECK.due("only LEAKS 0 lets nothing in", y.night(0) == 0 ? 0 : 1, l[2] == 0 ? 0 : 1);
        }
    }

    /** A set that costs no more than the sum: as much as it is still no more, one less is not enough. */
    private static void worksForWhatTheyCost() {
        HotWeek x = new HotWeek();
        CHECK.tell(x, "sky 0 0 0;sun 64;house 0 0 0 0;room 0 0 0 1 0");
        x.work(0, 999, 50, 0);
        CHECK.due("for 998", x.works(998, 0), 0);
        CHECK.due("for 999", x.works(999, 0), 1);
        for (int i = 1; i < 6; i++) {
            x.work(0, 999 - i, 50, 0);
        }
        CHECK.due("for 993", x.works(993, 0), 0);
        CHECK.due("for 994", x.works(994, 0), 32);
        int all = 999 * 6 - 15;
        CHECK.due("for one less than all, any five: the least number", x.works(all - 1, 0), 31);
        CHECK.due("for all", x.works(all, 0), 63);
        CHECK.due("for 9999", x.works(9999, 0), 63);
        CHECK.due("for 9999, the night", x.works(9999, 1), 5 * (2 + 10 + 18 + 26));
        CHECK.due("for 0", x.works(0, 0), 0);
        CHECK.due("for 0, the night", x.works(0, 1), 64 * 5 * (2 + 10 + 18 + 26));
        CHECK.due("a seventh", x.work(0, 1, 100, 20), HotWeek.FULL);
        CHECK.due("changes nothing", x.works(1, 0), 0);
        CHECK.due("works(max, 0)", x.works(Integer.MAX_VALUE, 0), HotWeek.OUTSIDE);
        CHECK.due("works(min, 0)", x.works(Integer.MIN_VALUE, 0), HotWeek.OUTSIDE);
    }

    private static void worksOfSeveralTheLeastNumber() {
        HotWeek x = new HotWeek();
        CHECK.tell(x, "sky 0 0 0;sun 64;house 0 0 0 0;room 0 0 0 1 0");
        x.work(0, 1, 0, 0);
        x.work(1, 1, 100, 20);
        CHECK.due("nothing to win", x.works(9999, 0), 0);
        x.work(0, 5, 50, 0);
        x.work(0, 2, 50, 0);
        x.work(0, 9, 100, 0);
        x.work(0, 1, 100, 0);
        CHECK.due("by 5 alone, as well as by more", x.works(8, 0), 32);
        CHECK.due("by 4, the least", x.works(9, 0), 16);
        CHECK.tell(x, "bare 0");
        CHECK.due("no room is told", x.works(9999, 0), 0);
        CHECK.due("no room is told, the night", x.works(9999, 1), 0);
    }

    private static void read() {
        HotWeek x = new HotWeek();
        CHECK.due("read(5, 0, 0)", x.read(5, 0, 99999), HotWeek.UNKNOWN);
        CHECK.due("read(-1, 0, 0)", x.read(-1, 0, 0), HotWeek.UNKNOWN);
        CHECK.due("read(0, 96, 0)", x.read(0, 96, 99999), HotWeek.UNKNOWN);
        CHECK.due("read(0, -1, 0)", x.read(0, -1, 0), HotWeek.UNKNOWN);
        CHECK.due("read(0, 0, -1000)", x.read(0, 0, -1000), HotWeek.OUTSIDE);
        CHECK.due("read(0, 0, 10000)", x.read(0, 0, 10000), HotWeek.OUTSIDE);
        CHECK.due("none read", x.count(3), 0);
        CHECK.due("read 1", x.read(0, 0, -999), 1);
        CHECK.due("read 2", x.read(4, 95, 9999), 2);
        for (int i = 3; i <= 8; i++) {
            CHECK.due("read " + i, x.read(4, 95, 0), i);
        }
        CHECK.due("read 9", x.read(0, 0, 0), HotWeek.FULL);
        CHECK.due("OUTSIDE ahead of FULL", x.read(0, 0, -1000), HotWeek.OUTSIDE);
        CHECK.due("UNKNOWN ahead of FULL", x.read(0, 96, 0), HotWeek.UNKNOWN);
        CHECK.due("eight read", x.count(3), 8);
    }

    private static void dueLearnt(HotWeek x, int t, int... want) {
        for (int what = 0; what < 5; what++) {
            CHECK.due("learnt(" + t + ", " + what + ")", x.learnt(t, what), want[what]);
        }
    }

    private static void learnt() {
        HotWeek x = new HotWeek();
        dueLearnt(x, 0, 81, 0, 40, 0, 40);
        CHECK.tell(x, "sky 0 0 0;sun 0;house 7 7 0 0;room 0 200 300 0 0");
        dueLearnt(x, 0, 81, 0, 40, 0, 40);
        // behind hour 0 AIR is 200 + GIVES, whatever TAKES
        x.read(0, 0, 216);
        dueLearnt(x, 0, 0, -1, -1, -1, -1);
        dueLearnt(x, 1, 9, 15, 15, 0, 40);
        dueLearnt(x, 3, 9, 15, 15, 0, 40);
        dueLearnt(x, 4, 18, 15, 20, 0, 40);
        dueLearnt(x, 6, 27, 10, 20, 0, 40);
        // behind hour 1, by GIVES 15: 215 + (300 - TAKES - 215) * 15 / 100: 227, 227, 226, 225, 224,
        // 224, 223, ..
        x.read(0, 1, 225);
        dueLearnt(x, 1, 4, 15, 15, 10, 25);
        CHECK.due("the law as told stays", x.warm(0, 0, 0), 207);
        x.read(3, 0, 0);
        dueLearnt(x, 999, 0, -1, -1, -1, -1);
        CHECK.tell(x, "room 3 0 0 0 0");
        dueLearnt(x, 1, 4, 15, 15, 10, 25);
        CHECK.tell(x, "bare 3");
        CHECK.due("bare again", x.learnt(999, 0), 0);
        learntByHabitAsTold();
    }

    /** What was tried ahead of it (clocks, the glass, works) leaves nothing behind. */
    private static void learntByHabitAsTold() {
        HotWeek x = new HotWeek();
        CHECK.tell(x, "sky 100 100 0;sun 0;house 0 0 0 40;room 0 200 200 0 0;habit 0 2");
        x.read(0, 0, 160);
        CHECK.due("learnt by ALWAYS", x.learnt(0, 0), 81);
        x.clock(0);
        CHECK.due("learnt behind clock", x.learnt(0, 0), 81);
        x.costs(0);
        CHECK.due("learnt behind costs", x.learnt(0, 0), 81);
        x.works(0, 0);
        CHECK.due("works behind learnt", x.works(0, 1), x.night(HotWeek.NONE));
    }

    /** AIR 200 is 200 + GIVES behind hour 0, and by GIVES 40 264 less 2 for each step of TAKES behind hour 1. */
    private static void learntAtTheCorners() {
        String told = "sky 0 0 0;sun 0;house 7 7 0 0;room 4 200 300 0 0";
        HotWeek x = new HotWeek();
        CHECK.tell(x, told);
        x.read(4, 0, 200);
        dueLearnt(x, 0, 9, 0, 0, 0, 40);
        x = new HotWeek();
        CHECK.tell(x, told);
        x.read(4, 0, 240);
        dueLearnt(x, 0, 9, 40, 40, 0, 40);
        x.read(4, 1, 264);
        dueLearnt(x, 0, 1, 40, 40, 0, 0);
        x = new HotWeek();
        CHECK.tell(x, told);
        x.read(4, 1, 248);
        x.read(4, 0, 240);
        dueLearnt(x, 0, 1, 40, 40, 40, 40);
        dueLearnt(x, 1, 1, 40, 40, 40, 40);
        dueLearnt(x, 2, 2, 40, 40, 35, 40);
        x = new HotWeek();
        CHECK.tell(x, told);
        x.read(4, 0, 199);
        dueLearnt(x, 0, 0, -1, -1, -1, -1);
        dueLearnt(x, 1, 9, 0, 0, 0, 40);
        x = new HotWeek();
        CHECK.tell(x, told);
        x.read(4, 0, 241);
        dueLearnt(x, 0, 0, -1, -1, -1, -1);
        dueLearnt(x, 1, 9, 40, 40, 0, 40);
    }

    private static void learntAtMostSoMuchOff() {
        int[][] rows = {{1199, 999, 81}, {1200, 999, 72}, {1239, 999, 9}, {1240, 999, 0}, {-759, 999, 81},
            {-760, 999, 72}, {-799, 999, 9}, {-800, 999, 0}, {9999, 999, 0}, {-999, 999, 0}, {220, 20, 81},
            {220, 19, 63}, {220, 0, 9}, {220, 4, 9}, {220, 5, 27}};
        for (int[] row : rows) {
            HotWeek x = new HotWeek();
            CHECK.tell(x, "sky 0 0 0;sun 0;house 7 7 0 0;room 0 200 300 0 0");
            x.read(0, 0, row[0]);
            CHECK.due("read " + row[0] + ", " + row[1] + " off", x.learnt(row[1], 0), row[2]);
        }
    }

    /** Each of eight rows is asked, the last as well as the first; a ninth, refused, is not. */
    private static void learntOfTheLastRow() {
        for (int wrong = 0; wrong < 8; wrong++) {
            HotWeek x = new HotWeek();
            CHECK.tell(x, "sky 0 0 0;sun 0;house 7 7 0 0;room 0 600 600 0 0;room 4 0 0 0 0");
            for (int i = 0; i < 8; i++) {
                x.read(4, 95, i == wrong ? 1 : 0);
            }
            CHECK.due("row " + wrong + " is off", x.learnt(0, 0), 0);
            CHECK.due("row " + wrong + " is one off", x.learnt(1, 0), 81);
        }
        HotWeek x = new HotWeek();
        CHECK.tell(x, "sky 0 0 0;sun 0;house 7 7 0 0;room 0 600 600 0 0");
        for (int i = 0; i < 8; i++) {
            x.read(0, i, 600);
        }
        CHECK.due("a ninth", x.read(0, 0, 0), HotWeek.FULL);
        dueLearnt(x, 0, 81, 0, 40, 0, 40);
    }

    private static void learntRefusals() {
        HotWeek x = new HotWeek();
        CHECK.due("learnt(-1, 0)", x.learnt(-1, 0), HotWeek.OUTSIDE);
        CHECK.due("learnt(1000, 0)", x.learnt(1000, 0), HotWeek.OUTSIDE);
        CHECK.due("learnt(0, 5)", x.learnt(0, 5), HotWeek.OUTSIDE);
        CHECK.due("learnt(0, -1)", x.learnt(0, -1), HotWeek.OUTSIDE);
        CHECK.due("learnt(min, min)", x.learnt(Integer.MIN_VALUE, Integer.MIN_VALUE), HotWeek.OUTSIDE);
    }
}
