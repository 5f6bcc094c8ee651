import java.util.ArrayList;
import java.util.List;

/** What holds of all calls: what is refused changes nothing, the first reason that fits, 512 calls. */
public final class WholeTest {
    private static final Check CHECK = new Check();

    private static final int MIN = Integer.MIN_VALUE, MAX = Integer.MAX_VALUE;

    /** A call with its arguments, and the answer that is due. */
    private record Refused(String call, int due, int... arguments) { }

    public static void main(String[] args) {
        refusedChangesNothing();
        askedChangesNothing();
        faultyWeekChangesNothing();
        fullTextChangesNothing();
        theFirstThatFits();
        lastCall();
        CHECK.end();
    }

    /** A house with something of everything, and half a text. */
    private static HotWeek house() {
        HotWeek x = new HotWeek();
        CHECK.tell(x, "room 0 300 280 1 2;room 3 310 290 3 1;door 3 0 5;sky 150 390 20;sun 41");
        CHECK.tell(x, "house 11 22 13 34;habit 0 1;open 3 21 6;shut 0 11 20;home 17 9");
        x.work(0, 20, 30, 2);
        x.work(3, 30, 60, 3);
        x.work(3, 10, 20, 5);
        x.read(0, 0, x.warm(0, 0, 0));
        x.read(3, 40, x.warm(3, 40, 0));
        x.flat(0, 9, 1);
        x.flat(4, 8, 2);
        x.flat(7, 7, 1);
        Check.write(x, "sun 7;home 2 1");
        return x;
    }

    /** The same with all that can be FULL full, but for the text. */
    private static HotWeek fullHouse() {
        HotWeek x = house();
        for (int i = 0; i < 3; i++) {
            x.work(3, 5, 10, 1);
        }
        for (int i = 0; i < 6; i++) {
            x.read(0, 95 - i, x.warm(0, 95 - i, 0));
        }
        return x;
    }

    private static List<Integer> answers(HotWeek x) {
        List<Integer> all = new ArrayList<>();
        for (int r = 0; r < 5; r++) {
            for (int what = 0; what < 7; what++) {
                all.add(x.room(r, what));
            }
            for (int other = 0; other < r; other++) {
                all.add(x.door(r, other));
            }
            all.add(x.warm(r, 95, 0));
            all.add(x.warm(r, 95, 1));
            all.add(x.warm(r, 40, 2));
            all.add(x.night(r));
            all.add(x.above(r, 300));
            all.add(x.costs(r));
        }
        for (int hour = 0; hour < 96; hour += 19) {
            all.add(x.out(hour));
        }
        for (int what = 0; what < 4; what++) {
            all.add(x.clock(what));
        }
        for (int what = 0; what < 5; what++) {
            all.add(x.learnt(3, what));
        }
        for (int what = 0; what < 6; what++) {
            all.add(x.count(what));
        }
        for (int i = -1; i < 9; i++) {
            all.add(x.ring(i));
        }
        for (int sum = 0; sum < 80; sum += 10) {
            all.add(x.works(sum, 0));
            all.add(x.works(sum, 1));
        }
        all.add(x.fault());
        all.add(x.week());
        all.add(x.count(5));
        all.add(x.warm(0, 6, 0));
        all.add(x.erase());
        return all;
    }

    private static void same(String call, List<Integer> got, List<Integer> want) {
        for (int i = 0; i < want.size(); i++) {
            CHECK.due("answer " + i + " behind " + call, got.get(i), want.get(i));
        }
    }

    private static int answer(HotWeek x, String call, int[] a) {
        return switch (call) {
            case "write" -> x.write(0x3939393939393939L, a[0]);
            case "room" -> x.room(a[0], a[1]);
            case "door" -> x.door(a[0], a[1]);
            case "out" -> x.out(a[0]);
            case "warm" -> x.warm(a[0], a[1], a[2]);
            case "night" -> x.night(a[0]);
            case "above" -> x.above(a[0], a[1]);
            case "costs" -> x.costs(a[0]);
            case "clock" -> x.clock(a[0]);
            case "work" -> x.work(a[0], a[1], a[2], a[3]);
            case "works" -> x.works(a[0], a[1]);
            case "read" -> x.read(a[0], a[1], a[2]);
            case "learnt" -> x.learnt(a[0], a[1]);
            case "flat" -> x.flat(a[0], a[1], a[2]);
            case "ring" -> x.ring(a[0]);
            case "street" -> x.street(a[0], a[1], a[2], a[3], a[4]);
            case "count" -> x.count(a[0]);
            default -> 0;
        };
    }

    /** Each argument out of its bounds by one, and by as much as there is, the others within theirs. */
    private static List<Refused> refused() {
        List<Refused> all = new ArrayList<>();
        outside(all, HotWeek.OUTSIDE, "write", 0, new int[] {4}, 1, 8);
        outside(all, HotWeek.UNKNOWN, "room", 0, new int[] {0, 0}, 0, 4);
        outside(all, HotWeek.OUTSIDE, "room", 1, new int[] {0, 0}, 0, 6);
        outside(all, HotWeek.UNKNOWN, "door", 0, new int[] {0, 1}, 0, 4);
        outside(all, HotWeek.UNKNOWN, "door", 1, new int[] {0, 1}, 0, 4);
        outside(all, HotWeek.UNKNOWN, "out", 0, new int[] {0}, 0, 95);
        outside(all, HotWeek.UNKNOWN, "warm", 0, new int[] {0, 0, 0}, 0, 4);
        outside(all, HotWeek.UNKNOWN, "warm", 1, new int[] {0, 0, 0}, 0, 95);
        outside(all, HotWeek.OUTSIDE, "warm", 2, new int[] {0, 0, 0}, 0, 2);
        outside(all, HotWeek.UNKNOWN, "night", 0, new int[] {0}, -1, 4);
        outside(all, HotWeek.UNKNOWN, "above", 0, new int[] {0, 0}, 0, 4);
        outside(all, HotWeek.OUTSIDE, "above", 1, new int[] {0, 0}, -999, 9999);
        outside(all, HotWeek.UNKNOWN, "costs", 0, new int[] {0}, 0, 4);
        outside(all, HotWeek.OUTSIDE, "clock", 0, new int[] {0}, 0, 3);
        outside(all, HotWeek.UNKNOWN, "work", 0, new int[] {0, 1, 100, 20}, 0, 4);
        outside(all, HotWeek.OUTSIDE, "work", 1, new int[] {0, 1, 100, 20}, 1, 999);
        outside(all, HotWeek.OUTSIDE, "work", 2, new int[] {0, 1, 100, 20}, 0, 100);
        outside(all, HotWeek.OUTSIDE, "work", 3, new int[] {0, 1, 100, 20}, 0, 20);
        outside(all, HotWeek.OUTSIDE, "works", 0, new int[] {0, 0}, 0, 9999);
        outside(all, HotWeek.OUTSIDE, "works", 1, new int[] {0, 0}, 0, 1);
        outside(all, HotWeek.UNKNOWN, "read", 0, new int[] {0, 0, 0}, 0, 4);
        outside(all, HotWeek.UNKNOWN, "read", 1, new int[] {0, 0, 0}, 0, 95);
        outside(all, HotWeek.OUTSIDE, "read", 2, new int[] {0, 0, 0}, -999, 9999);
        outside(all, HotWeek.OUTSIDE, "learnt", 0, new int[] {0, 0}, 0, 999);
        outside(all, HotWeek.OUTSIDE, "learnt", 1, new int[] {0, 0}, 0, 4);
        outside(all, HotWeek.UNKNOWN, "flat", 0, new int[] {0, 1, 8}, 0, 7);
        outside(all, HotWeek.OUTSIDE, "flat", 1, new int[] {0, 1, 8}, 0, 99);
        outside(all, HotWeek.OUTSIDE, "flat", 2, new int[] {0, 1, 8}, 1, 8);
        outside(all, HotWeek.OUTSIDE, "flat", 2, new int[] {0, 0, 8}, 1, 8);
        outside(all, HotWeek.OUTSIDE, "ring", 0, new int[] {0}, -1, MAX);
        outside(all, HotWeek.OUTSIDE, "street", 0, new int[] {1, 0, 0, 0, 0}, 1, 8);
        outside(all, HotWeek.OUTSIDE, "street", 1, new int[] {1, 0, 0, 0, 0}, 0, 99);
        outside(all, HotWeek.OUTSIDE, "street", 2, new int[] {1, 0, 0, 0, 0}, 0, 99);
        outside(all, HotWeek.OUTSIDE, "street", 3, new int[] {1, 0, 0, 0, 0}, 0, 99);
        outside(all, HotWeek.OUTSIDE, "street", 4, new int[] {1, 0, 0, 0, 0}, 0, 3);
        outside(all, HotWeek.OUTSIDE, "count", 0, new int[] {0}, 0, 5);
        all.add(new Refused("room", HotWeek.UNKNOWN, 4, 0));
        all.add(new Refused("door", HotWeek.UNKNOWN, 3, 3));
        all.add(new Refused("warm", HotWeek.UNKNOWN, 4, 0, 0));
        all.add(new Refused("night", HotWeek.UNKNOWN, 4));
        all.add(new Refused("above", HotWeek.UNKNOWN, 4, 0));
        all.add(new Refused("costs", HotWeek.UNKNOWN, 4));
        return all;
    }

    private static void outside(List<Refused> all, int due, String call, int place, int[] within, int least, int most) {
        for (int value : new int[] {MIN, least - 1, most + 1, MAX}) {
            if (value < least || value > most) {
                int[] a = within.clone();
                a[place] = value;
                all.add(new Refused(call, due, a));
            }
        }
        // its bounds themselves are not refused
        for (int value : new int[] {least, most}) {
            int[] a = within.clone();
            a[place] = value;
            int answer = answer(house(), call, a);
            boolean isRoomNotTold = answer == HotWeek.UNKNOWN && place == 0 && value == 4;
            boolean isOneAndItself = call.equals("door") && a[0] == a[1];
            CHECK.due(call + " " + place + ": " + value + " is refused",
                    answer < HotWeek.NONE && !isRoomNotTold && !isOneAndItself ? 1 : 0, 0);
        }
    }

    private static void refusedChangesNothing() {
        List<Integer> want = answers(house());
        for (Refused r : refused()) {
            HotWeek x = house();
            StringBuilder call = new StringBuilder(r.call());
            for (int a : r.arguments()) {
                call.append(' ').append(a);
            }
            CHECK.due(call.toString(), answer(x, r.call(), r.arguments()), r.due());
            same(call.toString(), answers(x), want);
        }
        want = answers(fullHouse());
        HotWeek x = fullHouse();
        CHECK.due("work", x.work(0, 1, 100, 20), HotWeek.FULL);
        same("work, FULL", answers(x), want);
        x = fullHouse();
        CHECK.due("read", x.read(0, 0, 0), HotWeek.FULL);
        same("read, FULL", answers(x), want);
    }

    /** No call that only asks leaves anything behind, in whatever order they are asked. */
    private static void askedChangesNothing() {
        List<Integer> want = answers(house());
        HotWeek x = house();
        x.learnt(999, 0);
        x.works(9999, 0);
        x.costs(3);
        x.clock(3);
        x.ring(0);
        x.street(8, 9, 3, 1, 0);
        x.fault();
        x.above(0, 0);
        x.night(HotWeek.NONE);
        x.warm(3, 9, 0);
        same("all that ask", answers(x), want);
    }

    private static void faultyWeekChangesNothing() {
        String lines = ";room 4 1 2 3 4;bare 0;door 0 3 1;sky 1 2 3;house 1 2 3 4";
        List<Integer> want = answers(withText(lines + ";sun"));
        HotWeek x = withText(lines + ";sun");
        CHECK.due("fault at the end", x.fault(), 14 + lines.length() + 4);
        CHECK.due("week of a fault at the end", x.week(), HotWeek.NOT);
        same("week, NOT", answers(x), want);
        // the bytes stay: what comes behind them may mend them
        x = withText("");
        CHECK.due("week", x.week(), 2);
        x = withText(lines.substring(0, 22) + " x");
        CHECK.due("week of a fault", x.week(), HotWeek.NOT);
        CHECK.due("nothing is bare", x.count(0), 2);
        CHECK.due("erase", x.erase(), 14 + 24);
        CHECK.due("week of no text", x.week(), HotWeek.NOT);
        CHECK.due("none is told", x.room(4, 0), HotWeek.UNKNOWN);
    }

    private static HotWeek withText(String more) {
        HotWeek x = house();
        Check.write(x, more);
        return x;
    }

    private static void fullTextChangesNothing() {
        for (int n = 1; n <= 8; n++) {
            String blanks = " ".repeat(200 - 14 - n + 1);
            List<Integer> want = answers(withText(blanks));
            HotWeek x = withText(blanks);
            CHECK.due("write of " + n, x.write(0x3939393939393939L, n), HotWeek.FULL);
            same("write of " + n + ", FULL", answers(x), want);
        }
    }

    /** UNKNOWN, OUTSIDE, NOT, FULL: where more than one fits, the first of them. */
    private static void theFirstThatFits() {
        HotWeek x = fullHouse();
        Check.write(x, " ".repeat(186));
        CHECK.due("write, OUTSIDE ahead of FULL", x.write(0, 9), HotWeek.OUTSIDE);
        CHECK.due("write, FULL", x.write(0, 8), HotWeek.FULL);
        CHECK.due("room not told, and what", x.room(4, 7), HotWeek.UNKNOWN);
        CHECK.due("no room, and what", x.room(5, -1), HotWeek.UNKNOWN);
        CHECK.due("warm: no room, and what", x.warm(4, 0, 3), HotWeek.UNKNOWN);
        CHECK.due("warm: no hour, and what", x.warm(0, 96, 3), HotWeek.UNKNOWN);
        CHECK.due("above: no room, and x", x.above(4, 10000), HotWeek.UNKNOWN);
        CHECK.due("work: no room, and cost", x.work(5, 0, 0, 0), HotWeek.UNKNOWN);
        CHECK.due("work: cost, and full", x.work(0, 0, 0, 0), HotWeek.OUTSIDE);
        CHECK.due("work: sun, and full", x.work(0, 1, 101, 0), HotWeek.OUTSIDE);
        CHECK.due("work: leak, and full", x.work(0, 1, 0, 21), HotWeek.OUTSIDE);
        CHECK.due("work: no room, and full", x.work(-1, 1, 0, 0), HotWeek.UNKNOWN);
        CHECK.due("work: full", x.work(4, 1, 0, 0), HotWeek.FULL);
        CHECK.due("read: no room, and air", x.read(5, 0, 10000), HotWeek.UNKNOWN);
        CHECK.due("read: no hour, and air", x.read(0, -1, -1000), HotWeek.UNKNOWN);
        CHECK.due("read: no hour, and full", x.read(0, 96, 0), HotWeek.UNKNOWN);
        CHECK.due("read: air, and full", x.read(0, 0, 10000), HotWeek.OUTSIDE);
        CHECK.due("read: full", x.read(4, 95, 0), HotWeek.FULL);
        CHECK.due("flat: none, and weight", x.flat(8, 100, 1), HotWeek.UNKNOWN);
        CHECK.due("flat: none, and due", x.flat(-1, 1, 9), HotWeek.UNKNOWN);
    }

    /** An object is used for 512 calls: the last is answered as the first. */
    private static void lastCall() {
        HotWeek x = new HotWeek();
        for (int i = 0; i < 128; i++) {
            CHECK.due("write, call " + 4 * i, x.write(Check.packed("sky " + i % 10), 5), 5);
            CHECK.due("write, call " + (4 * i + 1), x.write(Check.packed(" 320 10"), 7), 12);
            CHECK.due("week, call " + (4 * i + 2), x.week(), 1);
            CHECK.due("out, call " + (4 * i + 3), x.out(5), i % 10);
        }
    }
}
