/** Promises 18 to 21: rings, streets, counts. */
public final class RingsStreetsTest {
    private static final Check CHECK = new Check();

    public static void main(String[] args) {
        flat();
        ring();
        ringAtTheDue();
        ringOfOne();
        streetRefusals();
        street();
        streetAtTheBounds();
        streetHasTwoEnds();
        streetsOneBehindTheOther();
        count();
        countOfTheFull();
        CHECK.end();
    }

    private static void flat() {
        HotWeek x = new HotWeek();
        CHECK.due("flat(8, ..)", x.flat(8, 100, 9), HotWeek.UNKNOWN);
        CHECK.due("flat(-1, ..)", x.flat(-1, 1, 1), HotWeek.UNKNOWN);
        CHECK.due("flat weight 100", x.flat(0, 100, 1), HotWeek.OUTSIDE);
        CHECK.due("flat weight -1", x.flat(0, -1, 1), HotWeek.OUTSIDE);
        CHECK.due("flat due 0", x.flat(0, 1, 0), HotWeek.OUTSIDE);
        CHECK.due("flat due 9", x.flat(0, 1, 9), HotWeek.OUTSIDE);
        CHECK.due("flat weight 0, due 9", x.flat(0, 0, 9), HotWeek.OUTSIDE);
        CHECK.due("none told", x.count(4), 0);
        CHECK.due("flat 7", x.flat(7, 99, 8), 1);
        CHECK.due("flat 0", x.flat(0, 1, 1), 1);
        CHECK.due("two told", x.count(4), 2);
        CHECK.due("told again", x.flat(7, 2, 1), 1);
        CHECK.due("still two", x.count(4), 2);
        CHECK.due("no more told", x.flat(7, 0, 1), 1);
        CHECK.due("one told", x.count(4), 1);
        CHECK.due("not told, no more told", x.flat(5, 0, 1), 1);
        CHECK.due("still one", x.count(4), 1);
    }

    private static void dueRings(HotWeek x, int lost, int... flats) {
        CHECK.due("ring(NONE)", x.ring(HotWeek.NONE), lost);
        for (int i = 0; i < flats.length; i++) {
            CHECK.due("ring(" + i + ")", x.ring(i), flats[i]);
        }
        CHECK.due("ring behind the last", x.ring(flats.length), HotWeek.NONE);
    }

    private static void ring() {
        HotWeek x = new HotWeek();
        CHECK.due("ring(-2)", x.ring(-2), HotWeek.OUTSIDE);
        CHECK.due("ring(min)", x.ring(Integer.MIN_VALUE), HotWeek.OUTSIDE);
        CHECK.due("ring(max)", x.ring(Integer.MAX_VALUE), HotWeek.NONE);
        dueRings(x, 0);
        x.flat(3, 5, 1);
        dueRings(x, 5, 3);
        // 5 and 4, both due at 1: 5 + 2 * 4 + 40 is less than 4 + 2 * 5 + 50
        x.flat(6, 4, 1);
        dueRings(x, 53, 3, 6);
        // due at 2, no loss; 6 first then: 4 + 10
        x.flat(3, 5, 2);
        dueRings(x, 14, 6, 3);
        // alike: the first by flats
        x.flat(1, 4, 3);
        x.flat(3, 4, 3);
        x.flat(6, 4, 3);
        dueRings(x, 24, 1, 3, 6);
        x.flat(1, 4, 2);
        x.flat(6, 4, 1);
        dueRings(x, 24, 6, 1, 3);
        for (int f = 0; f < 8; f++) {
            x.flat(f, 1, 8);
        }
        dueRings(x, 36, 0, 1, 2, 3, 4, 5, 6, 7);
        for (int f = 0; f < 8; f++) {
            x.flat(f, 1, 8 - f);
        }
        dueRings(x, 36, 7, 6, 5, 4, 3, 2, 1, 0);
        for (int f = 0; f < 8; f++) {
            x.flat(f, 99, 1);
        }
        dueRings(x, 99 * 36 + 990 * 7, 0, 1, 2, 3, 4, 5, 6, 7);
        for (int f = 0; f < 8; f++) {
            x.flat(f, 0, 1);
        }
        dueRings(x, 0);
    }

    /** Rung when it is due, nothing more is lost; one behind it, WEIGHT times 10 is. */
    private static void ringAtTheDue() {
        for (int due = 1; due <= 8; due++) {
            HotWeek x = new HotWeek();
            for (int f = 0; f < 8; f++) {
                x.flat(f, 2, due);
            }
            dueRings(x, 2 * 36 + 20 * (8 - due), 0, 1, 2, 3, 4, 5, 6, 7);
        }
        // 7 weighs least and goes last, whatever it loses there, as long as the others would lose more
        for (int due = 1; due <= 8; due++) {
            HotWeek x = new HotWeek();
            for (int f = 0; f < 8; f++) {
                x.flat(f, f == 7 ? 1 : 99, f == 7 ? due : 8);
            }
            dueRings(x, 99 * 28 + 8 + (due < 8 ? 10 : 0), 0, 1, 2, 3, 4, 5, 6, 7);
        }
    }

    private static void ringOfOne() {
        for (int f = 0; f < 8; f++) {
            for (int due = 1; due <= 8; due += 7) {
                HotWeek x = new HotWeek();
                x.flat(f, 99, due);
                dueRings(x, 99, f);
                CHECK.due("ring(8)", x.ring(8), HotWeek.NONE);
                x.flat(f, 1, due);
                dueRings(x, 1, f);
                x.flat(f, 0, due);
                dueRings(x, 0);
            }
        }
        HotWeek x = new HotWeek();
        x.flat(7, 1, 8);
        x.flat(0, 1, 8);
        dueRings(x, 3, 0, 7);
        x.flat(0, 99, 2);
        x.flat(7, 99, 1);
        dueRings(x, 297, 7, 0);
        CHECK.due("ring(max)", x.ring(Integer.MAX_VALUE), HotWeek.NONE);
        CHECK.due("ring(8)", x.ring(8), HotWeek.NONE);
    }

    private static void streetRefusals() {
        HotWeek x = new HotWeek();
        int[][] outside = {{0, 1, 1, 1, 0}, {9, 1, 1, 1, 0}, {1, -1, 1, 1, 0}, {1, 100, 1, 1, 0},
            {1, 1, -1, 1, 0}, {1, 1, 100, 1, 0}, {1, 1, 1, -1, 0}, {1, 1, 1, 100, 0},
            {1, 1, 1, 1, -1}, {1, 1, 1, 1, 4}};
        for (int[] o : outside) {
            CHECK.due("street outside", x.street(o[0], o[1], o[2], o[3], o[4]), HotWeek.OUTSIDE);
        }
        int[] extremes = {Integer.MIN_VALUE, -1, 100, Integer.MAX_VALUE};
        for (int e : extremes) {
            for (int place = 0; place < 5; place++) {
                int[] o = {1, 1, 1, 1, 1};
                o[place] = e;
                CHECK.due("street outside", x.street(o[0], o[1], o[2], o[3], o[4]), HotWeek.OUTSIDE);
            }
        }
    }

    /** As much without a machine as with one does not rest with one, nor would anybody without take one. */
    private static void streetAtTheBounds() {
        for (int n = 1; n <= 8; n++) {
            int all = (1 << n) - 1;
            int pairs = 2 * (n - 1);
            dueStreet(n, 1, 0, 0, 1, all, 100000 + n, 100000 + n);
            dueStreet(n, 99, 0, 98, 1, all, 100000 + n, 100000 + n);
            dueStreet(n, 0, 0, 0, 1, 0, 100000, 100000);
            dueStreet(n, 99, 0, 99, 1, 0, 100000, 100000);
            dueStreet(n, 98, 0, 99, 1, 0, 100000, 100000);
            // better by 1 and 0 less: everybody runs one, nobody bears a neighbour's
            dueStreet(n, 99, 0, 0, 1, all, 100000 + 99 * n, 100000 + 99 * n);
            // nothing better: as much by oneself, better beside one who runs one
            dueStreet(n, 99, 99, 99, n == 1 ? 1 : 2, 0, 100000, 100000);
            // one neighbour is just not enough, and just enough
            dueStreet(n, 4, 3, 7, 1, 0, 100000, 100000);
            dueStreet(n, 5, 3, 7, n == 1 ? 1 : 2, 0, 100000, 100000);
            dueStreet(n, 1, 99, 0, 1, all, 100000 + n - 99 * pairs, n == 1 ? 100001 : 100000);
        }
    }

    /** One neighbour to each side, and to the ends' other side none: by two neighbours only all could rest. */
    private static void streetHasTwoEnds() {
        for (int n = 3; n <= 8; n++) {
            dueStreet(n, 5, 2, 8, 1, 0, 100000, 100000);
            // each end bears one, each other two
            dueStreet(n, 99, 1, 0, 1, (1 << n) - 1, 100000 + 99 * n - 2 * (n - 1), 100000 + 99 * n - 2 * (n - 1));
        }
    }

    /** Of the street that was asked ahead nothing is left, neither its most nor what rested in it. */
    private static void streetsOneBehindTheOther() {
        int[][] streets = {{8, 99, 0, 0, 1, 255, 100792, 100792}, {1, 0, 0, 99, 1, 0, 100000, 100000},
            {8, 99, 99, 0, 1, 255, 99406, 100000}, {2, 5, 3, 7, 2, 0, 100000, 100000}, {1, 1, 99, 0, 1, 1, 100001, 100001}};
        HotWeek x = new HotWeek();
        for (int[] ahead : streets) {
            for (int[] s : streets) {
                for (int what = 0; what < 4; what++) {
                    x.street(ahead[0], ahead[1], ahead[2], ahead[3], what);
                    CHECK.due("street of " + s[0] + " behind a street of " + ahead[0] + ", what " + what,
                            x.street(s[0], s[1], s[2], s[3], what), s[4 + what]);
                }
            }
        }
    }

    private static void dueStreet(int n, int c, int w, int p, int... want) {
        HotWeek x = new HotWeek();
        for (int what = 0; what < 4; what++) {
            CHECK.due("street(" + n + ", " + c + ", " + w + ", " + p + ", " + what + ")",
                    x.street(n, c, w, p, what), want[what]);
        }
    }

    private static void street() {
        dueStreet(1, 5, 9, 4, 1, 1, 100001, 100001);
        // as much without a machine as with one: it does not run
        dueStreet(1, 5, 9, 5, 1, 0, 100000, 100000);
        dueStreet(3, 0, 0, 0, 1, 0, 100000, 100000);
        // all run, though all would have more by none running
        dueStreet(2, 5, 7, 3, 1, 3, 100000 + 2 * 2 - 14, 100000);
        // none rests, all rest: -2 each, or better off than with a neighbour's 2 w
        dueStreet(2, 5, 3, 7, 2, 0, 100000, 100000);
        // one neighbour who runs is no reason yet, two are: 1 and 8 do not run, so none does
        dueStreet(8, 5, 3, 8, 1, 0, 100000, 100000);
        // by 2, 2 neighbours: -4 + 2 w > 0 with w 3, but the ends: -4 + 3
        dueStreet(4, 5, 3, 9, 1, 0, 100000, 100000);
        // -2 + w, w 3: a row of two or more may run where its ends' neighbours do not: those then would
        dueStreet(3, 5, 3, 7, 2, 0, 100000, 100000);
        // the most by any set: the ends run (each spares itself no neighbour), the middle bears
        dueStreet(2, 9, 1, 0, 1, 3, 100000 + 2 * 9 - 2, 100000 + 16);
        // one end alone: 9, and its neighbour bears 2 * 5; one in the middle harms two
        dueStreet(1, 99, 99, 0, 1, 1, 100099, 100099);
        dueStreet(8, 99, 99, 0, 1, 255, 100000 + 8 * 99 - 14 * 99, 100000);
        dueStreet(8, 0, 99, 99, 1, 0, 100000, 100000);
        dueStreet(8, 99, 0, 98, 1, 255, 100008, 100008);
    }

    private static void count() {
        HotWeek x = new HotWeek();
        CHECK.due("count(-1)", x.count(-1), HotWeek.OUTSIDE);
        CHECK.due("count(6)", x.count(6), HotWeek.OUTSIDE);
        CHECK.tell(x, "room 0 1 1 0 0;room 4 1 1 0 0;room 4 2 2 0 0;home 22 3");
        CHECK.due("count(0)", x.count(0), 2);
        CHECK.due("count(5)", x.count(5), 7 | 3 << 22);
        Check.write(x, "bare 4;home 9 9");
        CHECK.due("count(1)", x.count(1), 15);
        x.week();
        CHECK.due("count(0), one bare", x.count(0), 1);
        CHECK.due("count(1), done", x.count(1), 0);
        CHECK.due("count(5), all", x.count(5), 0xffffff);
        CHECK.tell(x, "home 0 23");
        CHECK.due("count(5), but 23", x.count(5), 0x7fffff);
        x.work(0, 1, 1, 1);
        x.work(0, 1, 1, 1);
        x.read(0, 0, 0);
        x.flat(0, 1, 1);
        x.flat(1, 1, 1);
        x.flat(2, 1, 1);
        CHECK.due("count(2)", x.count(2), 2);
        CHECK.due("count(3)", x.count(3), 1);
        CHECK.due("count(4)", x.count(4), 3);
    }

    private static void countOfTheFull() {
        HotWeek x = new HotWeek();
        CHECK.tell(x, "room 0 1 1 0 0;room 1 1 1 0 0;room 2 1 1 0 0;room 3 1 1 0 0;room 4 1 1 0 0;home 23 0");
        Check.write(x, " ".repeat(200));
        for (int i = 0; i < 9; i++) {
            x.work(0, 1, 1, 1);
            x.read(0, 0, 0);
            x.flat(i, 1, 1);
        }
        int[] want = {5, 200, 6, 8, 8, 1 << 23};
        for (int what = 0; what < 6; what++) {
            CHECK.due("count(" + what + ") of the full", x.count(what), want[what]);
        }
        CHECK.due("count(max)", x.count(Integer.MAX_VALUE), HotWeek.OUTSIDE);
        CHECK.due("count(min)", x.count(Integer.MIN_VALUE), HotWeek.OUTSIDE);
        x.week();
        CHECK.due("count(1) behind a faulty week", x.count(1), 200);
        x.erase();
        CHECK.due("count(1) behind erase", x.count(1), 0);
        CHECK.tell(x, "bare 0;bare 1;bare 2;bare 3;bare 4");
        CHECK.due("count(0) of the bare", x.count(0), 0);
        CHECK.due("count(2) of the bare", x.count(2), 6);
        CHECK.due("count(3) of the bare", x.count(3), 8);
    }
}
