/** Promises 18 to 21: rings, streets, counts. */
public final class RingsStreetsTest {
    private static final Check CHECK = new Check();

    public static void main(String[] args) {
        flat();
        ring();
        streetRefusals();
        street();
        count();
        CHECK.end();
    }

    private static void flat() {
        HotWeek x = new HotWeek();
        CHECK.due("flat(8, ..)", x.flat(8, 100, 9), HotWeek.UNKNOWN);
        CHECK.due("flat(-1, ..)", x.flat(-1, 1, 1), HotWeek.UNKNOWN);
        CHECK.due("flat weight 100", x.flat(0, 100, 1), HotWeek.OUTSIDE);
        CHECK.due("flat weight -1", x.flat(0, -1, 1), HotWeek.OUTSIDE);
        CHECK.due("flat due 0", x.flat(0, 1, 0), HotWeek.OUTSIDE);
        CHECK.due("flat due 9", x.flat(0, 1, 9), HotWeek.OUTSIDE);
        CHECK.due("flat weight 0, due 9", x.flat(0, 0, 9), HotWeek.OUTSIDE);
        CHECK.due("none told", x.count(4), 0);
        CHECK.due("flat 7", x.flat(7, 99, 8), 1);
        CHECK.due("flat 0", x.flat(0, 1, 1), 1);
        CHECK.due("two told", x.count(4), 2);
        CHECK.due("told again", x.flat(7, 2, 1), 1);
        CHECK.due("still two", x.count(4), 2);
        CHECK.due("no more told", x.flat(7, 0, 1), 1);
        CHECK.due("one told", x.count(4), 1);
        CHECK.due("not told, no more told", x.flat(5, 0, 1), 1);
        CHECK.due("still one", x.count(4), 1);
    }

    private static void dueRings(HotWeek x, int lost, int... flats) {
        CHECK.due("ring(NONE)", x.ring(HotWeek.NONE), lost);
        for (int i = 0; i < flats.length; i++) {
            CHECK.due("ring(" + i + ")", x.ring(i), flats[i]);
        }
        CHECK.due("ring behind the last", x.ring(flats.length), HotWeek.NONE);
    }

    private static void ring() {
        HotWeek x = new HotWeek();
        CHECK.due("ring(-2)", x.ring(-2), HotWeek.OUTSIDE);
        CHECK.due("ring(min)", x.ring(Integer.MIN_VALUE), HotWeek.OUTSIDE);
        CHECK.due("ring(max)", x.ring(Integer.MAX_VALUE), HotWeek.NONE);
        dueRings(x, 0);
        x.flat(3, 5, 1);
        dueRings(x, 5, 3);
        // 5 and 4, both due at 1: 5 + 2 * 4 + 40 is less than 4 + 2 * 5 + 50
        x.flat(6, 4, 1);
        dueRings(x, 53, 3, 6);
        // due at 2, no loss; 6 first then: 4 + 10
        x.flat(3, 5, 2);
        dueRings(x, 14, 6, 3);
        // alike: the first by flats
        x.flat(1, 4, 3);
        x.flat(3, 4, 3);
        x.flat(6, 4, 3);
        dueRings(x, 24, 1, 3, 6);
        x.flat(1, 4, 2);
        x.flat(6, 4, 1);
        dueRings(x, 24, 6, 1, 3);
        for (int f = 0; f < 8; f++) {
            x.flat(f, 1, 8);
        }
        dueRings(x, 36, 0, 1, 2, 3, 4, 5, 6, 7);
        for (int f = 0; f < 8; f++) {
            x.flat(f, 1, 8 - f);
        }
        dueRings(x, 36, 7, 6, 5, 4, 3, 2, 1, 0);
        for (int f = 0; f < 8; f++) {
            x.flat(f, 99, 1);
        }
        dueRings(x, 99 * 36 + 990 * 7, 0, 1, 2, 3, 4, 5, 6, 7);
        for (int f = 0; f < 8; f++) {
            x.flat(f, 0, 1);
        }
        dueRings(x, 0);
    }

    private static void streetRefusals() {
        HotWeek x = new HotWeek();
        int[][] outside = {{0, 1, 1, 1, 0}, {9, 1, 1, 1, 0}, {1, -1, 1, 1, 0}, {1, 100, 1, 1, 0},
            {1, 1, -1, 1, 0}, {1, 1, 100, 1, 0}, {1, 1, 1, -1, 0}, {1, 1, 1, 100, 0},
            {1, 1, 1, 1, -1}, {1, 1, 1, 1, 4}};
        for (int[] o : outside) {
            CHECK.due("street outside", x.street(o[0], o[1], o[2], o[3], o[4]), HotWeek.OUTSIDE);
        }
    }

    private static void dueStreet(int n, int c, int w, int p, int... want) {
        HotWeek x = new HotWeek();
        for (int what = 0; what < 4; what++) {
            CHECK.due("street(" + n + ", " + c + ", " + w + ", " + p + ", " + what + ")",
                    x.street(n, c, w, p, what), want[what]);
        }
    }

    private static void street() {
        dueStreet(1, 5, 9, 4, 1, 1, 100001, 100001);
        // as much without a machine as with one: it does not run
        dueStreet(1, 5, 9, 5, 1, 0, 100000, 100000);
        dueStreet(3, 0, 0, 0, 1, 0, 100000, 100000);
        // all run, though all would have more by none running
        dueStreet(2, 5, 7, 3, 1, 3, 100000 + 2 * 2 - 14, 100000);
        // none rests, all rest: -2 each, or better off than with a neighbour's 2 w
        dueStreet(2, 5, 3, 7, 2, 0, 100000, 100000);
        // one neighbour who runs is no reason yet, two are: 1 and 8 do not run, so none does
        dueStreet(8, 5, 3, 8, 1, 0, 100000, 100000);
        // by 2, 2 neighbours: -4 + 2 w > 0 with w 3, but the ends: -4 + 3
        dueStreet(4, 5, 3, 9, 1, 0, 100000, 100000);
        // -2 + w, w 3: a row of two or more may run where its ends' neighbours do not: those then would
        dueStreet(3, 5, 3, 7, 2, 0, 100000, 100000);
        // the most by any set: the ends run (each spares itself no neighbour), the middle bears
        dueStreet(2, 9, 1, 0, 1, 3, 100000 + 2 * 9 - 2, 100000 + 16);
        // one end alone: 9, and its neighbour bears 2 * 5; one in the middle harms two
        dueStreet(1, 99, 99, 0, 1, 1, 100099, 100099);
        dueStreet(8, 99, 99, 0, 1, 255, 100000 + 8 * 99 - 14 * 99, 100000);
        dueStreet(8, 0, 99, 99, 1, 0, 100000, 100000);
        dueStreet(8, 99, 0, 98, 1, 255, 100008, 100008);
    }

    private static void count() {
        HotWeek x = new HotWeek();
        CHECK.due("count(-1)", x.count(-1), HotWeek.OUTSIDE);
        CHECK.due("count(6)", x.count(6), HotWeek.OUTSIDE);
        CHECK.tell(x, "room 0 1 1 0 0;room 4 1 1 0 0;room 4 2 2 0 0;home 22 3");
        CHECK.due("count(0)", x.count(0), 2);
        CHECK.due("count(5)", x.count(5), 7 | 3 << 22);
        Check.write(x, "bare 4;home 9 9");
        CHECK.due("count(1)", x.count(1), 15);
        x.week();
        CHECK.due("count(0), one bare", x.count(0), 1);
        CHECK.due("count(1), done", x.count(1), 0);
        CHECK.due("count(5), all", x.count(5), 0xffffff);
        CHECK.tell(x, "home 0 23");
        CHECK.due("count(5), but 23", x.count(5), 0x7fffff);
        x.work(0, 1, 1, 1);
        x.work(0, 1, 1, 1);
        x.read(0, 0, 0);
        x.flat(0, 1, 1);
        x.flat(1, 1, 1);
        x.flat(2, 1, 1);
        CHECK.due("count(2)", x.count(2), 2);
        CHECK.due("count(3)", x.count(3), 1);
        CHECK.due("count(4)", x.count(4), 3);
    }
}
