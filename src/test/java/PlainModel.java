import java.util.ArrayList;
import java.util.Arrays;
import java.util.Collections;
import java.util.List;
import java.util.regex.Matcher;
import java.util.regex.Pattern;

/**
 * The document once more, written in another way: words matched by patterns, every order of rings
 * tried, every week run from its beginning, nothing kept. ModelTest holds HotWeek against it.
 */
final class PlainModel {
    static final int NONE = -1, UNKNOWN = -2, OUTSIDE = -3, NOT = -4, FULL = -5;

    static final class Room {
        boolean told;
        int air, wall, side, folk, habit;
        boolean[] open = new boolean[24];
        boolean[] shut = new boolean[24];
    }

    static final class Result {
        int[][] air = new int[5][96];
        int[][] wall = new int[5][96];
        boolean[][] open = new boolean[5][96];
    }

    /** What is tried instead of what is told; null or -1: as told. */
    static final class Instead {
        int[] habit = {-1, -1, -1, -1, -1};
        boolean[] open = null;
        int works = 0;
        int gives = -1;
        int takes = -1;
    }

    StringBuilder text = new StringBuilder();
    Room[] rooms = {new Room(), new Room(), new Room(), new Room(), new Room()};
    int[][] doors = new int[5][5];
    int cool = 200, hot = 320, warmer = 10, sun = 20, takes = 20, gives = 10, leaks = 3, window = 40;
    boolean[] home = new boolean[24];
    List<int[]> works = new ArrayList<>();
    List<int[]> rows = new ArrayList<>();
    int[][] flats = new int[8][];

    PlainModel() {
        Arrays.fill(home, true);
    }

    int write(long bytes, int n) {
        if (n < 1 || n > 8) {
            return OUTSIDE;
        }
        if (text.length() + n > 200) {
            return FULL;
        }
        for (int i = 0; i < n; i++) {
            text.append((char) ((bytes >>> (8 * i)) & 0xff));
        }
        return text.length();
    }

    int erase() {
        int n = text.length();
        text = new StringBuilder();
        return n;
    }

    static final String[] FORMS = {
        "room 4 600 600 3 9", "door 4 4 10", "sky 500 500 50", "sun 99", "house 40 40 20 40",
        "habit 4 3", "open 4 23 23", "shut 4 23 23", "home 23 23", "bare 4"};

    /** Tokens as {place, end}, the last one being the end of the text. */
    List<int[]> tokens() {
        List<int[]> found = new ArrayList<>();
        Matcher m = Pattern.compile("[a-z]+|[0-9]+|[^ ]", Pattern.DOTALL).matcher(text);
        while (m.find()) {
            found.add(new int[] {m.start(), m.end()});
        }
        found.add(new int[] {text.length(), text.length()});
        return found;
    }

    /** The fault's place; the lines ahead of it are added to the list. */
    int parse(List<List<Integer>> lines) {
        List<int[]> tokens = tokens();
        int k = 0;
        while (true) {
            int[] at = tokens.get(k++);
            String word = text.substring(at[0], at[1]);
            int kind = -1;
            for (int i = 0; i < FORMS.length; i++) {
                if (FORMS[i].split(" ")[0].equals(word)) {
                    kind = i;
                }
            }
            if (kind < 0) {
                return at[0];
            }
            List<Integer> line = new ArrayList<>(List.of(kind));
            String[] form = FORMS[kind].split(" ");
            for (int i = 1; i < form.length; i++) {
                at = tokens.get(k++);
                String number = text.substring(at[0], at[1]);
                if (!number.matches("[0-9]{1,3}") || Integer.parseInt(number) > Integer.parseInt(form[i])) {
                    return at[0];
                }
                if (kind == 1 && i == 2 && Integer.parseInt(number) == line.get(1)) {
                    return at[0];
                }
                line.add(Integer.parseInt(number));
            }
            lines.add(line);
            at = tokens.get(k++);
            if (at[0] == text.length()) {
                return NONE;
            }
            if (text.charAt(at[0]) != ';' || lines.size() == 8) {
                return at[0];
            }
        }
    }

    int fault() {
        return parse(new ArrayList<>());
    }

    int week() {
        List<List<Integer>> lines = new ArrayList<>();
        if (parse(lines) != NONE) {
            return NOT;
        }
        for (List<Integer> l : lines) {
            int[] n = l.stream().mapToInt(Integer::intValue).toArray();
            switch (n[0]) {
                case 0 -> {
                    Room r = rooms[n[1]];
                    r.told = true;
                    r.air = n[2];
                    r.wall = n[3];
                    r.side = n[4];
                    r.folk = n[5];
                }
                case 1 -> doors[Math.min(n[1], n[2])][Math.max(n[1], n[2])] = n[3];
                case 2 -> {
                    cool = n[1];
                    hot = n[2];
                    warmer = n[3];
                }
                case 3 -> sun = n[1];
                case 4 -> {
                    takes = n[1];
                    gives = n[2];
                    leaks = n[3];
                    window = n[4];
                }
                case 5 -> rooms[n[1]].habit = n[2];
                case 6 -> rooms[n[1]].open = span(n[2], n[3]);
                case 7 -> rooms[n[1]].shut = span(n[2], n[3]);
                case 8 -> {
                    home = span(n[1], n[2]);
                    if (n[1] == n[2]) {
                        Arrays.fill(home, true);
                    }
                }
                default -> rooms[n[1]].told = false;
            }
        }
        text = new StringBuilder();
        return lines.size();
    }

    static boolean[] span(int a, int b) {
        boolean[] in = new boolean[24];
        for (int h = 0; h < 24; h++) {
            in[h] = a < b ? h >= a && h < b : a > b && (h >= a || h < b);
        }
        return in;
    }

    static int bits(boolean[] in) {
        int set = 0;
        for (int i = 0; i < in.length; i++) {
            set += in[i] ? 1 << i : 0;
        }
        return set;
    }

    boolean told(int room) {
        return room >= 0 && room <= 4 && rooms[room].told;
    }

    int room(int room, int what) {
        if (!told(room)) {
            return UNKNOWN;
        }
        Room r = rooms[room];
        int[] all = {r.air, r.wall, r.side, r.folk, r.habit, bits(r.open), bits(r.shut)};
        return what < 0 || what > 6 ? OUTSIDE : all[what];
    }

    int door(int a, int b) {
        if (a < 0 || a > 4 || b < 0 || b > 4 || a == b) {
            return UNKNOWN;
        }
        return doors[Math.min(a, b)][Math.max(a, b)];
    }

    int out(int hour) {
        if (hour < 0 || hour > 95) {
            return UNKNOWN;
        }
        // from one turning point of the sky to the next: hour 5 of day 0 is the first, hour -9 the one ahead
        int sinceCool = hour - 5;
        int day = Math.floorDiv(sinceCool, 24);
        int q = sinceCool - 24 * day;
        int c = cool + warmer * day;
        int h = hot + warmer * day;
        return q <= 10 ? c + (h - c) * q / 10 : h - (h - c) * (q - 10) / 14;
    }

    static boolean shines(int side, int h) {
        return side == 1 && h >= 6 && h <= 10 || side == 2 && h >= 10 && h <= 15 || side == 3 && h >= 15 && h <= 19;
    }

    Result run(Instead instead) {
        Result result = new Result();
        int[] air = new int[5];
        int[] wall = new int[5];
        for (int r = 0; r < 5; r++) {
            air[r] = rooms[r].air;
            wall[r] = rooms[r].wall;
        }
        int g = instead.gives >= 0 ? instead.gives : gives;
        int t = instead.takes >= 0 ? instead.takes : takes;
        for (int hour = 0; hour < 96; hour++) {
            int h = hour % 24;
            int[] newAir = air.clone();
            int[] newWall = wall.clone();
            for (int r = 0; r < 5; r++) {
                if (!rooms[r].told) {
                    continue;
                }
                Room room = rooms[r];
                int s = shines(room.side, h) ? sun : 0;
                if (room.shut[h]) {
                    s /= 4;
                }
                int leak = leaks;
                for (int i = 0; i < works.size(); i++) {
                    if ((instead.works >> i) % 2 == 1 && works.get(i)[0] == r) {
                        s = s * (100 - works.get(i)[2]) / 100;
                        leak = Math.max(leak - works.get(i)[3], 0);
                    }
                }
                newAir[r] += s;
                newAir[r] += home[h] ? 2 * room.folk : 0;
                newAir[r] += (wall[r] - air[r]) * g / 100;
                for (int o = 0; o < 5; o++) {
                    if (o != r && rooms[o].told) {
                        newAir[r] += (air[o] - air[r]) * door(r, o) / 100;
                    }
                }
                int habit = instead.habit[r] >= 0 ? instead.habit[r] : room.habit;
                boolean[] clock = instead.open != null ? instead.open : room.open;
                boolean open = habit == 0 ? clock[h] : habit == 1 ? out(hour) < air[r] : habit == 2;
                open = open && home[h];
                if (open) {
                    newAir[r] += (out(hour) - air[r]) * window / 100;
                }
                newWall[r] += (air[r] - wall[r]) * t / 100 + (out(hour) - wall[r]) * leak / 100;
                result.open[r][hour] = open;
            }
            air = newAir;
            wall = newWall;
            for (int r = 0; r < 5; r++) {
                result.air[r][hour] = air[r];
                result.wall[r][hour] = wall[r];
            }
        }
        return result;
    }

    int warm(int room, int hour, int what) {
        if (!told(room) || hour < 0 || hour > 95) {
            return UNKNOWN;
        }
        if (what < 0 || what > 2) {
            return OUTSIDE;
        }
        Result w = run(new Instead());
        return what == 0 ? w.air[room][hour] : what == 1 ? w.wall[room][hour] : w.open[room][hour] ? 1 : 0;
    }

    int nights(Result w, int room) {
        int sum = 0;
        for (int day = 0; day < 4; day++) {
            for (int h : new int[] {0, 1, 2, 3, 4, 5, 22, 23}) {
                sum += w.air[room][24 * day + h];
            }
        }
        return sum;
    }

    int nights(Instead instead) {
        Result w = run(instead);
        int sum = 0;
        for (int r = 0; r < 5; r++) {
            sum += rooms[r].told ? nights(w, r) : 0;
        }
        return sum;
    }

    int night(int room) {
        return room == NONE ? nights(new Instead()) : told(room) ? nights(run(new Instead()), room) : UNKNOWN;
    }

    int above(int room, int x) {
        if (!told(room)) {
            return UNKNOWN;
        }
        if (x < -999 || x > 9999) {
            return OUTSIDE;
        }
        StringBuilder row = new StringBuilder();
        for (int air : run(new Instead()).air[room]) {
            row.append(air > x ? 'x' : ' ');
        }
        int longest = 0;
        for (String part : row.toString().split(" ")) {
            longest = Math.max(longest, part.length());
        }
        return longest;
    }

    int costs(int room) {
        if (!told(room)) {
            return UNKNOWN;
        }
        Instead glass = new Instead();
        glass.habit[room] = 1;
        return 10000000 + nights(new Instead()) - nights(glass);
    }

    int clock(int what) {
        if (what < 0 || what > 3) {
            return OUTSIDE;
        }
        int[] best = null;
        for (int ab = 0; ab < 24 * 24; ab++) {
            Instead clock = new Instead();
            Arrays.fill(clock.habit, 0);
            clock.open = span(ab / 24, ab % 24);
            int sum = nights(clock);
            if (best == null || sum < best[2]) {
                best = new int[] {ab / 24, ab % 24, sum, 0};
            }
        }
        Instead glass = new Instead();
        Arrays.fill(glass.habit, 1);
        best[3] = 10000000 + best[2] - nights(glass);
        return best[what];
    }

    int work(int room, int cost, int sunLess, int leakLess) {
        if (room < 0 || room > 4) {
            return UNKNOWN;
        }
        if (cost < 1 || cost > 999 || sunLess < 0 || sunLess > 100 || leakLess < 0 || leakLess > 20) {
            return OUTSIDE;
        }
        if (works.size() == 6) {
            return FULL;
        }
        works.add(new int[] {room, cost, sunLess, leakLess});
        return works.size() - 1;
    }

    int works(int sum, int what) {
        if (sum < 0 || sum > 9999 || what < 0 || what > 1) {
            return OUTSIDE;
        }
        int best = 0;
        int least = nights(new Instead());
        for (int set = 1; set < 1 << works.size(); set++) {
            int cost = 0;
            for (int i = 0; i < works.size(); i++) {
                cost += (set >> i) % 2 * works.get(i)[1];
            }
            Instead with = new Instead();
            with.works = set;
            if (cost <= sum && nights(with) < least) {
                best = set;
                least = nights(with);
            }
        }
        return what == 0 ? best : least;
    }

    int read(int room, int hour, int air) {
        if (room < 0 || room > 4 || hour < 0 || hour > 95) {
            return UNKNOWN;
        }
        if (air < -999 || air > 9999) {
            return OUTSIDE;
        }
        if (rows.size() == 8) {
            return FULL;
        }
        rows.add(new int[] {room, hour, air});
        return rows.size();
    }

    int learnt(int t, int what) {
        if (t < 0 || t > 999 || what < 0 || what > 4) {
            return OUTSIDE;
        }
        List<Integer> givesThat = new ArrayList<>();
        List<Integer> takesThat = new ArrayList<>();
        for (int law = 0; law < 81; law++) {
            Instead by = new Instead();
            by.gives = law / 9 * 5;
            by.takes = law % 9 * 5;
            Result w = run(by);
            boolean holds = true;
            for (int[] row : rows) {
                int off = w.air[row[0]][row[1]] - row[2];
                holds = holds && rooms[row[0]].told && off <= t && -off <= t;
            }
            if (holds) {
                givesThat.add(by.gives);
                takesThat.add(by.takes);
            }
        }
        if (what == 0) {
            return givesThat.size();
        }
        if (givesThat.isEmpty()) {
            return NONE;
        }
        List<Integer> one = what <= 2 ? givesThat : takesThat;
        return what % 2 == 1 ? Collections.min(one) : Collections.max(one);
    }

    int flat(int flat, int weight, int due) {
        if (flat < 0 || flat > 7) {
            return UNKNOWN;
        }
        if (weight < 0 || weight > 99 || due < 1 || due > 8) {
            return OUTSIDE;
        }
        flats[flat] = weight == 0 ? null : new int[] {weight, due};
        return 1;
    }

    private int leastLost;
    private List<Integer> firstOrder;

    /** Every order, the first by flats first. */
    private void tryOrders(List<Integer> rung, int lost) {
        boolean isWhole = true;
        for (int f = 0; f < 8; f++) {
            if (flats[f] != null && !rung.contains(f)) {
                isWhole = false;
                List<Integer> longer = new ArrayList<>(rung);
                longer.add(f);
                int when = longer.size();
                tryOrders(longer, lost + flats[f][0] * when + (when > flats[f][1] ? 10 * flats[f][0] : 0));
            }
        }
        if (isWhole && (firstOrder == null || lost < leastLost)) {
            leastLost = lost;
            firstOrder = rung;
        }
    }

    int ring(int i) {
        if (i < NONE) {
            return OUTSIDE;
        }
        firstOrder = null;
        tryOrders(new ArrayList<>(), 0);
        return i == NONE ? leastLost : i < firstOrder.size() ? firstOrder.get(i) : NONE;
    }

    static int payoff(boolean[] run, int i, int c, int w, int p) {
        int k = (i > 0 && run[i - 1] ? 1 : 0) + (i < run.length - 1 && run[i + 1] ? 1 : 0);
        return run[i] ? c - p - k * w : -k * 2 * w;
    }

    int street(int n, int c, int w, int p, int what) {
        if (n < 1 || n > 8 || Math.min(c, Math.min(w, p)) < 0 || Math.max(c, Math.max(w, p)) > 99
                || what < 0 || what > 3) {
            return OUTSIDE;
        }
        int rests = 0;
        int bestSet = NONE;
        int best = NONE;
        int most = Integer.MIN_VALUE;
        for (int set = 0; set < 1 << n; set++) {
            boolean[] run = new boolean[n];
            for (int i = 0; i < n; i++) {
                run[i] = (set >> i) % 2 == 1;
            }
            int sum = 0;
            boolean isRest = true;
            for (int i = 0; i < n; i++) {
                int now = payoff(run, i, c, w, p);
                run[i] = !run[i];
                int other = payoff(run, i, c, w, p);
                run[i] = !run[i];
                sum += now;
                isRest = isRest && other <= now && !(run[i] && other == now);
            }
            most = Math.max(most, sum + 100000);
            if (isRest) {
                rests++;
                if (sum + 100000 > best) {
                    best = sum + 100000;
                    bestSet = set;
                }
            }
        }
        return new int[] {rests, bestSet, best, most}[what];
    }

    int count(int what) {
        int toldRooms = 0;
        int toldFlats = 0;
        for (Room r : rooms) {
            toldRooms += r.told ? 1 : 0;
        }
        for (int[] f : flats) {
            toldFlats += f != null ? 1 : 0;
        }
        int[] all = {toldRooms, text.length(), works.size(), rows.size(), toldFlats, bits(home)};
        return what < 0 || what > 5 ? OUTSIDE : all[what];
    }
}
