/**
 * A house in a hot week: what is told of it in texts, how warm its rooms are hour by hour, what
 * habits and works are worth, what read glasses teach; whom to ring first; what rests in a street.
 *
 * <p>Every row is made with the object and used again: no call makes an object.
 */
public final class HotWeek {
    public static final int NONE = -1, UNKNOWN = -2, OUTSIDE = -3, NOT = -4, FULL = -5;

    private static final int ROOMS = 5, DAY = 24, HOURS = 96, ALL_DAY = (1 << DAY) - 1;
    private static final int LEAST_AIR = -999, MOST_AIR = 9999;

    /** What may be below nothing is answered so much higher, so that it is not taken for a refusal. */
    private static final int LIFT = 10000000, STREET_LIFT = 100000;

    private final Text text;
    private final Reader reader;
    private final House house;
    private final Plan plan;
    private final Course told;
    private final Course tried;
    private final BestClock bestClock;
    private final Works works;
    private final Glasses glasses;
    private final Rings rings;
    private final Street street;

    /** Whether {@link #told} still is the course of the house as it is told. */
    private boolean toldStands;

    public HotWeek() {
        text = new Text();
        reader = new Reader();
        house = new House();
        plan = new Plan();
        told = new Course();
        tried = new Course();
        bestClock = new BestClock();
        works = new Works();
        glasses = new Glasses();
        rings = new Rings();
        street = new Street();
        toldStands = false;
    }

    // ---- what is told

    public int write(long bytes, int n) {
        if (!isWithin(n, 1, 8)) {
            return OUTSIDE;
        }
        if (!text.hasSpaceFor(n)) {
            return FULL;
        }
        for (int i = 0; i < n; i++) {
            text.add((int) (bytes >> 8 * i & 255));
        }
        return text.length();
    }

    public int erase() {
        int had = text.length();
        text.clear();
        return had;
    }

    public int fault() {
        return reader.faultOf(text);
    }

    public int week() {
        if (reader.faultOf(text) != NONE) {
            return NOT;
        }
        int lines = reader.lines();
        for (int line = 0; line < lines; line++) {
            house.tell(reader.kindOf(line), reader.numbersOf(line));
        }
        text.clear();
        toldStands = false;
        bestClock.forget();
        return lines;
    }

    public int room(int room, int what) {
        if (!house.isTold(room)) {
            return UNKNOWN;
        }
        switch (what) {
            case 0:
                return house.firstAir(room);
            case 1:
                return house.firstWall(room);
            case 2:
                return house.side(room);
            case 3:
                return house.folk(room);
            case 4:
                return house.habit(room);
            case 5:
                return house.openHours(room);
            case 6:
                return house.shutHours(room);
            default:
                return OUTSIDE;
        }
    }

    public int door(int room, int other) {
        if (!isRoom(room) || !isRoom(other) || room == other) {
            return UNKNOWN;
        }
        return house.passes(room, other);
    }

    public int out(int hour) {
        return isHour(hour) ? house.skyAt(hour) : UNKNOWN;
    }

    // ---- hours

    public int warm(int room, int hour, int what) {
        if (!house.isTold(room) || !isHour(hour)) {
            return UNKNOWN;
        }
        switch (what) {
            case 0:
                return courseAsTold().airBehind(room, hour);
            case 1:
                return courseAsTold().wallBehind(room, hour);
            case 2:
                return courseAsTold().openIn(room, hour);
            default:
                return OUTSIDE;
        }
    }

    public int night(int room) {
        if (room == NONE) {
            return courseAsTold().nightOfAll(house);
        }
        return house.isTold(room) ? courseAsTold().nightOf(room) : UNKNOWN;
    }

    public int above(int room, int x) {
        if (!house.isTold(room)) {
            return UNKNOWN;
        }
        if (!isWithin(x, LEAST_AIR, MOST_AIR)) {
            return OUTSIDE;
        }
        return courseAsTold().longestAbove(room, x);
    }

    public int costs(int room) {
        if (!house.isTold(room)) {
            return UNKNOWN;
        }
        plan.takeFrom(house);
        plan.putHabit(room, House.GLASS);
        tried.run(house, plan);
        return LIFT + courseAsTold().nightOfAll(house) - tried.nightOfAll(house);
    }

    public int clock(int what) {
        if (!isWithin(what, 0, 3)) {
            return OUTSIDE;
        }
        bestClock.find(house, plan, tried);
        switch (what) {
            case 0:
                return bestClock.from();
            case 1:
                return bestClock.to();
            case 2:
                return bestClock.nightOfAll();
            default:
                return LIFT + bestClock.near();
        }
    }

    // ---- works

    public int work(int room, int cost, int sun, int leak) {
        if (!isRoom(room)) {
            return UNKNOWN;
        }
        if (!isWithin(cost, 1, 999) || !isWithin(sun, 0, 100) || !isWithin(leak, 0, 20)) {
            return OUTSIDE;
        }
        return works.isFull() ? FULL : works.add(room, cost, sun, leak);
    }

    public int works(int sum, int what) {
        if (!isWithin(sum, 0, 9999) || !isWithin(what, 0, 1)) {
            return OUTSIDE;
        }
        works.findFor(sum, house, plan, tried);
        return what == 0 ? works.bestSet() : works.bestNight();
    }

    public int read(int room, int hour, int air) {
        if (!isRoom(room) || !isHour(hour)) {
            return UNKNOWN;
        }
        if (!isWithin(air, LEAST_AIR, MOST_AIR)) {
            return OUTSIDE;
        }
        return glasses.isFull() ? FULL : glasses.add(room, hour, air);
    }

    public int learnt(int t, int what) {
        if (!isWithin(t, 0, 999) || !isWithin(what, 0, 4)) {
            return OUTSIDE;
        }
        glasses.learn(t, house, plan, tried);
        if (what == 0) {
            return glasses.laws();
        }
        return glasses.laws() == 0 ? NONE : glasses.bound(what);
    }

    // ---- rings, streets

    public int flat(int flat, int weight, int due) {
        if (!isWithin(flat, 0, Rings.FLATS - 1)) {
            return UNKNOWN;
        }
        if (!isWithin(weight, 0, 99) || !isWithin(due, 1, Rings.FLATS)) {
            return OUTSIDE;
        }
        rings.tell(flat, weight, due);
        return 1;
    }

    public int ring(int i) {
        if (i < NONE) {
            return OUTSIDE;
        }
        rings.weigh();
        return i == NONE ? rings.lost() : rings.flatAt(i);
    }

    public int street(int n, int c, int w, int p, int what) {
        if (!isWithin(n, 1, 8) || !isWithin(c, 0, 99) || !isWithin(w, 0, 99)
                || !isWithin(p, 0, 99) || !isWithin(what, 0, 3)) {
            return OUTSIDE;
        }
        street.look(n, c, w, p);
        switch (what) {
            case 0:
                return street.rests();
            case 1:
                return street.bestRest();
            case 2:
                return street.rests() == 0 ? NONE : STREET_LIFT + street.mostByRest();
            default:
                return STREET_LIFT + street.mostByAny();
        }
    }

    public int count(int what) {
        switch (what) {
            case 0:
                return house.toldRooms();
            case 1:
                return text.length();
            case 2:
                return works.size();
            case 3:
                return glasses.size();
            case 4:
                return rings.toldFlats();
            case 5:
                return house.homeHours();
            default:
                return OUTSIDE;
        }
    }

    private Course courseAsTold() {
        if (!toldStands) {
            plan.takeFrom(house);
            told.run(house, plan);
            toldStands = true;
        }
        return told;
    }

    private static boolean isWithin(int number, int least, int most) {
        return number >= least && number <= most;
    }

    private static boolean isRoom(int room) {
        return isWithin(room, 0, ROOMS - 1);
    }

    private static boolean isHour(int hour) {
        return isWithin(hour, 0, HOURS - 1);
    }

    private static boolean hasBit(int set, int bit) {
        return (set >> bit & 1) == 1;
    }

    /** The hours of the day from one up to the one ahead of the other, by bits; none, if they are one. */
    private static int hoursFrom(int from, int to) {
        int set = 0;
        for (int i = 0; i < DAY; i++) {
            int hour = (from + i) % DAY;
            if (hour == to) {
                break;
            }
            set |= 1 << hour;
        }
        return set;
    }

    /** The text's bytes, and where its tokens begin and end. */
    private static final class Text {
        private static final int MOST = 200, BLANK = 32;

        private final int[] bytes;
        private int length;

        Text() {
            bytes = new int[MOST];
            length = 0;
        }

        int length() {
            return length;
        }

        boolean hasSpaceFor(int n) {
            return length + n <= MOST;
        }

        void add(int value) {
            if (length < MOST) {
                bytes[length++] = value;
            }
        }

        void clear() {
            length = 0;
        }

        /** The byte at a place, NONE at the end. */
        int at(int place) {
            return place >= 0 && place < length ? bytes[place] : NONE;
        }

        int behindBlanks(int place) {
            int end = place;
            while (end < length && at(end) == BLANK) {
                end++;
            }
            return end;
        }

        /** Where the token ends that begins at a place; at the end there is none, and it has no length. */
        int endOfToken(int place) {
            if (place >= length) {
                return place;
            }
            int end = place + 1;
            if (isLetter(at(place))) {
                while (end < length && isLetter(at(end))) {
                    end++;
                }
            } else if (isDigit(at(place))) {
                while (end < length && isDigit(at(end))) {
                    end++;
                }
            }
            return end;
        }

        boolean spells(int from, int to, String word) {
            if (to - from != word.length()) {
                return false;
            }
            for (int i = 0; i < word.length(); i++) {
                if (at(from + i) != word.charAt(i)) {
                    return false;
                }
            }
            return true;
        }

        /** The number that a token is, NONE if it is no number of 1 to 3 digits. */
        int numberIn(int from, int to) {
            if (to - from < 1 || to - from > 3 || !isDigit(at(from))) {
                return NONE;
            }
            int number = 0;
            for (int i = from; i < to; i++) {
                number = number * 10 + at(i) - '0';
            }
            return number;
        }

        private static boolean isLetter(int value) {
            return value >= 'a' && value <= 'z';
        }

        private static boolean isDigit(int value) {
            return value >= '0' && value <= '9';
        }
    }

    /** Reads a text to its first fault, and keeps the lines ahead of it. */
    private static final class Reader {
        private static final int MOST_LINES = 8, MOST_NUMBERS = 5;

        /** The greatest that each number of each kind of line may be, NONE where there is none. */
        private static final int[] BOUNDS = {
            4, 600, 600, 3, 9,
            4, 4, 10, NONE, NONE,
            500, 500, 50, NONE, NONE,
            99, NONE, NONE, NONE, NONE,
            40, 40, 20, 40, NONE,
            4, 3, NONE, NONE, NONE,
            4, 23, 23, NONE, NONE,
            4, 23, 23, NONE, NONE,
            23, 23, NONE, NONE, NONE,
            4, NONE, NONE, NONE, NONE,
        };

        private final int[] kinds;
        private final int[][] numbers;
        private int lines;

        /** How far the text has been read. */
        private int place;

        Reader() {
            kinds = new int[MOST_LINES];
            numbers = new int[MOST_LINES][MOST_NUMBERS];
            lines = 0;
            place = 0;
        }

        int lines() {
            return lines;
        }

        int kindOf(int line) {
            return kinds[line];
        }

        int[] numbersOf(int line) {
            return numbers[line];
        }

        /** The place of the text's fault, or NONE. */
        int faultOf(Text text) {
            lines = 0;
            place = 0;
            for (int line = 0; line < MOST_LINES; line++) {
                if (!readsWord(text, line) || !readsNumbers(text, line)) {
                    return place;
                }
                lines++;
                place = text.behindBlanks(place);
                if (place == text.length()) {
                    return NONE;
                }
                if (text.at(place) != ';') {
                    return place;
                }
                place++;
            }
            return place - 1;
        }

        private boolean readsWord(Text text, int line) {
            place = text.behindBlanks(place);
            int end = text.endOfToken(place);
            for (int kind = 0; kind < House.KINDS; kind++) {
                if (text.spells(place, end, House.wordOf(kind))) {
                    kinds[line] = kind;
                    place = end;
                    return true;
                }
            }
            return false;
        }

        private boolean readsNumbers(Text text, int line) {
            int first = kinds[line] * MOST_NUMBERS;
            for (int i = 0; i < MOST_NUMBERS && BOUNDS[first + i] != NONE; i++) {
                place = text.behindBlanks(place);
                int end = text.endOfToken(place);
                int number = text.numberIn(place, end);
                if (!isWithin(number, 0, BOUNDS[first + i]) || isDoorToItself(line, i, number)) {
                    return false;
                }
                numbers[line][i] = number;
                place = end;
            }
            return true;
        }

        private boolean isDoorToItself(int line, int i, int number) {
            return kinds[line] == House.DOOR && i == 1 && number == numbers[line][0];
        }
    }

    /** The house and its sky as they are told. */
    private static final class House {
        static final int ROOM = 0, DOOR = 1, SKY = 2, SUN = 3, HOUSE = 4, HABIT = 5, OPEN = 6,
                SHUT = 7, HOME = 8, BARE = 9, KINDS = 10;
        static final int CLOCK = 0, GLASS = 1, ALWAYS = 2;
        private static final int EAST = 1, SOUTH = 2, WEST = 3;
        private static final int COOLEST = 5, HOTTEST = 15;

        private final boolean[] told;
        private final int[] firstAir;
        private final int[] firstWall;
        private final int[] side;
        private final int[] folk;
        private final int[] habit;
        private final int[] openHours;
        private final int[] shutHours;
        private final int[][] passes;
        private int homeHours;
        private int cool;
        private int hot;
        private int warmer;
        private int sun;
        private int takes;
        private int gives;
        private int leaks;
        private int window;

        House() {
            told = new boolean[ROOMS];
            firstAir = new int[ROOMS];
            firstWall = new int[ROOMS];
            side = new int[ROOMS];
            folk = new int[ROOMS];
            habit = new int[ROOMS];
            openHours = new int[ROOMS];
            shutHours = new int[ROOMS];
            passes = new int[ROOMS][ROOMS];
            homeHours = ALL_DAY;
            cool = 200;
            hot = 320;
            warmer = 10;
            sun = 20;
            takes = 20;
            gives = 10;
            leaks = 3;
            window = 40;
        }

        static String wordOf(int kind) {
            switch (kind) {
                case ROOM:
                    return "room";
                case DOOR:
                    return "door";
                case SKY:
                    return "sky";
                case SUN:
                    return "sun";
                case HOUSE:
                    return "house";
                case HABIT:
                    return "habit";
                case OPEN:
                    return "open";
                case SHUT:
                    return "shut";
                case HOME:
                    return "home";
                default:
                    return "bare";
            }
        }

        /** Does a line; its numbers have been read within their bounds. */
        void tell(int kind, int[] n) {
            switch (kind) {
                case ROOM:
                    tellRoom(n);
                    break;
                case DOOR:
                    passes[n[0]][n[1]] = n[2];
                    passes[n[1]][n[0]] = n[2];
                    break;
                case SKY:
                    cool = n[0];
                    hot = n[1];
                    warmer = n[2];
                    break;
                case SUN:
                    sun = n[0];
                    break;
                case HOUSE:
                    takes = n[0];
                    gives = n[1];
                    leaks = n[2];
                    window = n[3];
                    break;
                case HABIT:
                    habit[n[0]] = n[1];
                    break;
                case OPEN:
                    openHours[n[0]] = hoursFrom(n[1], n[2]);
                    break;
                case SHUT:
                    shutHours[n[0]] = hoursFrom(n[1], n[2]);
                    break;
                case HOME:
                    homeHours = n[0] == n[1] ? ALL_DAY : hoursFrom(n[0], n[1]);
                    break;
                case BARE:
                    told[n[0]] = false;
                    break;
                default:
                    break;
            }
        }

        private void tellRoom(int[] n) {
            int room = n[0];
            told[room] = true;
            firstAir[room] = n[1];
            firstWall[room] = n[2];
            side[room] = n[3];
            folk[room] = n[4];
        }

        boolean isTold(int room) {
            return room >= 0 && room < ROOMS && told[room];
        }

        int toldRooms() {
            int rooms = 0;
            for (int room = 0; room < ROOMS; room++) {
                if (told[room]) {
                    rooms++;
                }
            }
            return rooms;
        }

        int firstAir(int room) {
            return firstAir[room];
        }

        int firstWall(int room) {
            return firstWall[room];
        }

        int side(int room) {
            return side[room];
        }

        int folk(int room) {
            return folk[room];
        }

        int habit(int room) {
            return habit[room];
        }

        int openHours(int room) {
            return openHours[room];
        }

        int shutHours(int room) {
            return shutHours[room];
        }

        int passes(int room, int other) {
            return passes[room][other];
        }

        int homeHours() {
            return homeHours;
        }

        int takes() {
            return takes;
        }

        int gives() {
            return gives;
        }

        int leaks() {
            return leaks;
        }

        int window() {
            return window;
        }

        /** OUT at an hour of the week. */
        int skyAt(int hour) {
            int day = hour / DAY;
            int q = hour % DAY;
            if (q < COOLEST) {
                day--;
                q += DAY;
            }
            int rise = hot - cool;
            if (q <= HOTTEST) {
                return cool + day * warmer + rise * (q - COOLEST) / 10;
            }
            return hot + day * warmer - rise * (q - HOTTEST) / 14;
        }

        /** What the sun gives a room at an hour of the day, behind its shutter. */
        int sunIn(int room, int hourOfDay) {
            if (!shinesOn(side[room], hourOfDay)) {
                return 0;
            }
            return hasBit(shutHours[room], hourOfDay) ? sun / 4 : sun;
        }

        private static boolean shinesOn(int side, int hourOfDay) {
            switch (side) {
                case EAST:
                    return isWithin(hourOfDay, 6, 10);
                case SOUTH:
                    return isWithin(hourOfDay, 10, 15);
                case WEST:
                    return isWithin(hourOfDay, 15, 19);
                default:
                    return false;
            }
        }
    }

    /** By what a week is to go: the house as told, or with some of it otherwise, to try what that does. */
    private static final class Plan {
        private final int[] habit;
        private final int[] openHours;
        private final int[] leaks;
        private final int[][] sun;
        private final int[] sky;
        private int takes;
        private int gives;

        Plan() {
            habit = new int[ROOMS];
            openHours = new int[ROOMS];
            leaks = new int[ROOMS];
            sun = new int[ROOMS][DAY];
            sky = new int[HOURS];
            takes = 0;
            gives = 0;
        }

        void takeFrom(House house) {
            for (int hour = 0; hour < HOURS; hour++) {
                sky[hour] = house.skyAt(hour);
            }
            for (int room = 0; room < ROOMS; room++) {
                habit[room] = house.habit(room);
                openHours[room] = house.openHours(room);
                takeWorksOff(room, house);
            }
            putLaw(house.gives(), house.takes());
        }

        private void takeWorksOff(int room, House house) {
            leaks[room] = house.leaks();
            for (int hour = 0; hour < DAY; hour++) {
                sun[room][hour] = house.sunIn(room, hour);
            }
        }

        void takeAllWorksOff(House house) {
            for (int room = 0; room < ROOMS; room++) {
                takeWorksOff(room, house);
            }
        }

        void putWork(int room, int sunLess, int leakLess) {
            leaks[room] = Math.max(0, leaks[room] - leakLess);
            for (int hour = 0; hour < DAY; hour++) {
                sun[room][hour] = sun[room][hour] * (100 - sunLess) / 100;
            }
        }

        void putHabit(int room, int kind) {
            habit[room] = kind;
        }

        void putAllByGlass() {
            for (int room = 0; room < ROOMS; room++) {
                habit[room] = House.GLASS;
            }
        }

        void putAllByClock(int hours) {
            for (int room = 0; room < ROOMS; room++) {
                habit[room] = House.CLOCK;
                openHours[room] = hours;
            }
        }

        void putLaw(int newGives, int newTakes) {
            gives = newGives;
            takes = newTakes;
        }

        int skyAt(int hour) {
            return sky[hour];
        }

        int sunIn(int room, int hourOfDay) {
            return sun[room][hourOfDay];
        }

        int leaks(int room) {
            return leaks[room];
        }

        int takes() {
            return takes;
        }

        int gives() {
            return gives;
        }

        /** Whether a room's window would be open, were someone at home. */
        boolean wouldOpen(int room, int hour, int air) {
            switch (habit[room]) {
                case House.CLOCK:
                    return hasBit(openHours[room], hour % DAY);
                case House.GLASS:
                    return sky[hour] < air;
                case House.ALWAYS:
                    return true;
                default:
                    return false;
            }
        }
    }

    /** How warm the rooms are through a week. */
    private static final class Course {
        /** At 0 as it begins, at h + 1 behind hour h. */
        private final int[][] air;
        private final int[][] wall;
        private final int[][] open;

        Course() {
            air = new int[ROOMS][HOURS + 1];
            wall = new int[ROOMS][HOURS + 1];
            open = new int[ROOMS][HOURS];
        }

        void run(House house, Plan plan) {
            for (int room = 0; room < ROOMS; room++) {
                air[room][0] = house.firstAir(room);
                wall[room][0] = house.firstWall(room);
            }
            for (int hour = 0; hour < HOURS; hour++) {
                for (int room = 0; room < ROOMS; room++) {
                    if (house.isTold(room)) {
                        goOn(room, hour, house, plan);
                    }
                }
            }
        }

        private void goOn(int room, int hour, House house, Plan plan) {
            int a = air[room][hour];
            int w = wall[room][hour];
            int sky = plan.skyAt(hour);
            boolean isHome = hasBit(house.homeHours(), hour % DAY);
            boolean isOpen = isHome && plan.wouldOpen(room, hour, a);
            int comes = plan.sunIn(room, hour % DAY) + (w - a) * plan.gives() / 100;
            comes += throughDoors(room, hour, house);
            if (isHome) {
                comes += 2 * house.folk(room);
            }
            if (isOpen) {
                comes += (sky - a) * house.window() / 100;
            }
            air[room][hour + 1] = a + comes;
            wall[room][hour + 1] = w + (a - w) * plan.takes() / 100 + (sky - w) * plan.leaks(room) / 100;
            open[room][hour] = isOpen ? 1 : 0;
        }

        private int throughDoors(int room, int hour, House house) {
            int comes = 0;
            for (int other = 0; other < ROOMS; other++) {
                int passes = house.passes(room, other);
                if (passes > 0 && house.isTold(other)) {
                    comes += (air[other][hour] - air[room][hour]) * passes / 100;
                }
            }
            return comes;
        }

        int airBehind(int room, int hour) {
            return air[room][hour + 1];
        }

        int wallBehind(int room, int hour) {
            return wall[room][hour + 1];
        }

        int openIn(int room, int hour) {
            return open[room][hour];
        }

        int nightOf(int room) {
            int night = 0;
            for (int hour = 0; hour < HOURS; hour++) {
                int hourOfDay = hour % DAY;
                if (hourOfDay >= 22 || hourOfDay <= 5) {
                    night += air[room][hour + 1];
                }
            }
            return night;
        }

        int nightOfAll(House house) {
            int night = 0;
            for (int room = 0; room < ROOMS; room++) {
                if (house.isTold(room)) {
                    night += nightOf(room);
                }
            }
            return night;
        }

        int longestAbove(int room, int x) {
            int longest = 0;
            int row = 0;
            for (int hour = 0; hour < HOURS; hour++) {
                row = air[room][hour + 1] > x ? row + 1 : 0;
                longest = Math.max(longest, row);
            }
            return longest;
        }
    }

    /** The best clock, kept till the house is told otherwise: to find it takes hundreds of weeks. */
    private static final class BestClock {
        private boolean found;
        private int from;
        private int to;
        private int nightOfAll;
        private int nightByGlass;

        BestClock() {
            found = false;
        }

        void forget() {
            found = false;
        }

        void find(House house, Plan plan, Course course) {
            if (found) {
                return;
            }
            plan.takeFrom(house);
            plan.putAllByGlass();
            course.run(house, plan);
            nightByGlass = course.nightOfAll(house);
            for (int a = 0; a < DAY; a++) {
                for (int b = 0; b < DAY; b++) {
                    plan.putAllByClock(hoursFrom(a, b));
                    course.run(house, plan);
                    keepBetter(a, b, course.nightOfAll(house));
                }
            }
            found = true;
        }

        private void keepBetter(int a, int b, int night) {
            boolean isFirst = a == 0 && b == 0;
            if (isFirst || night < nightOfAll) {
                from = a;
                to = b;
                nightOfAll = night;
            }
        }

        int from() {
            return from;
        }

        int to() {
            return to;
        }

        int nightOfAll() {
            return nightOfAll;
        }

        int near() {
            return nightOfAll - nightByGlass;
        }
    }

    /** Works that can be had, and the best of them for a sum. */
    private static final class Works {
        private static final int MOST = 6;

        private final int[] room;
        private final int[] cost;
        private final int[] sun;
        private final int[] leak;
        private int size;
        private int bestSet;
        private int bestNight;

        Works() {
            room = new int[MOST];
            cost = new int[MOST];
            sun = new int[MOST];
            leak = new int[MOST];
            size = 0;
        }

        int size() {
            return size;
        }

        boolean isFull() {
            return size >= MOST;
        }

        int add(int newRoom, int newCost, int newSun, int newLeak) {
            if (isFull()) {
                return FULL;
            }
            room[size] = newRoom;
            cost[size] = newCost;
            sun[size] = newSun;
            leak[size] = newLeak;
            return size++;
        }

        void findFor(int sum, House house, Plan plan, Course course) {
            plan.takeFrom(house);
            for (int set = 0; set < 1 << size; set++) {
                if (costOf(set) > sum) {
                    continue;
                }
                plan.takeAllWorksOff(house);
                put(set, plan);
                course.run(house, plan);
                int night = course.nightOfAll(house);
                if (set == 0 || night < bestNight) {
                    bestSet = set;
                    bestNight = night;
                }
            }
        }

        private int costOf(int set) {
            int all = 0;
            for (int i = 0; i < size; i++) {
                if (hasBit(set, i)) {
                    all += cost[i];
                }
            }
            return all;
        }

        private void put(int set, Plan plan) {
            for (int i = 0; i < size; i++) {
                if (hasBit(set, i)) {
                    plan.putWork(room[i], sun[i], leak[i]);
                }
            }
        }

        int bestSet() {
            return bestSet;
        }

        int bestNight() {
            return bestNight;
        }
    }

    /** Rows read off glasses, and the laws (GIVES and TAKES) by which they could be so. */
    private static final class Glasses {
        private static final int MOST = 8, MOST_LAW = 40, LAW_STEP = 5;

        private final int[] room;
        private final int[] hour;
        private final int[] air;
        private int size;
        private int laws;
        private int leastGives;
        private int mostGives;
        private int leastTakes;
        private int mostTakes;

        Glasses() {
            room = new int[MOST];
            hour = new int[MOST];
            air = new int[MOST];
            size = 0;
            laws = 0;
        }

        int size() {
            return size;
        }

        boolean isFull() {
            return size >= MOST;
        }

        int add(int newRoom, int newHour, int newAir) {
            if (isFull()) {
                return FULL;
            }
            room[size] = newRoom;
            hour[size] = newHour;
            air[size] = newAir;
            size++;
            return size;
        }

        void learn(int t, House house, Plan plan, Course course) {
            laws = 0;
            plan.takeFrom(house);
            for (int gives = 0; gives <= MOST_LAW; gives += LAW_STEP) {
                for (int takes = 0; takes <= MOST_LAW; takes += LAW_STEP) {
                    plan.putLaw(gives, takes);
                    course.run(house, plan);
                    if (allHold(t, house, course)) {
                        keep(gives, takes);
                    }
                }
            }
        }

        private boolean allHold(int t, House house, Course course) {
            for (int i = 0; i < size; i++) {
                if (!house.isTold(room[i])
                        || Math.abs(course.airBehind(room[i], hour[i]) - air[i]) > t) {
                    return false;
                }
            }
            return true;
        }

        private void keep(int gives, int takes) {
            boolean isFirst = laws == 0;
            leastGives = isFirst ? gives : Math.min(leastGives, gives);
            mostGives = isFirst ? gives : Math.max(mostGives, gives);
            leastTakes = isFirst ? takes : Math.min(leastTakes, takes);
            mostTakes = isFirst ? takes : Math.max(mostTakes, takes);
            laws++;
        }

        int laws() {
            return laws;
        }

        /** The least, the greatest GIVES (1, 2), TAKES (3, 4), if there is a law. */
        int bound(int which) {
            switch (which) {
                case 1:
                    return leastGives;
                case 2:
                    return mostGives;
                case 3:
                    return leastTakes;
                default:
                    return mostTakes;
            }
        }
    }

    /** Flats to ring, and the order by which least is lost. */
    private static final class Rings {
        static final int FLATS = 8;
        private static final int SETS = 1 << FLATS;

        /** 0: not told. */
        private final int[] weight;
        private final int[] due;

        /** What is lost at least by a set of flats, if they are the last to be rung. */
        private final int[] leastLost;

        Rings() {
            weight = new int[FLATS];
            due = new int[FLATS];
            leastLost = new int[SETS];
        }

        void tell(int flat, int newWeight, int newDue) {
            weight[flat] = newWeight;
            due[flat] = newDue;
        }

        private int toldSet() {
            int set = 0;
            for (int flat = 0; flat < FLATS; flat++) {
                if (weight[flat] > 0) {
                    set |= 1 << flat;
                }
            }
            return set;
        }

        int toldFlats() {
            return Integer.bitCount(toldSet());
        }

        void weigh() {
            int all = toldSet();
            leastLost[0] = 0;
            for (int set = 1; set < SETS; set++) {
                if ((set & ~all) == 0) {
                    leastLost[set] = lostBy(set, firstOf(set, all), all);
                }
            }
        }

        int lost() {
            return leastLost[toldSet()];
        }

        /** The flat that is rung i-th (from 0), NONE behind the last. */
        int flatAt(int i) {
            int all = toldSet();
            int left = all;
            for (int k = 0; k < FLATS && left != 0; k++) {
                int flat = firstOf(left, all);
                if (k == i) {
                    return flat;
                }
                left &= ~(1 << flat);
            }
            return NONE;
        }

        /** The least flat that may go first, when a set is left, so that least is lost. */
        private int firstOf(int set, int all) {
            int best = NONE;
            for (int flat = 0; flat < FLATS; flat++) {
                if (hasBit(set, flat)
                        && (best == NONE || lostBy(set, flat, all) < lostBy(set, best, all))) {
                    best = flat;
                }
            }
            return best;
        }

        /** What is lost by a set that is left, if one flat of it goes first, the others at their best. */
        private int lostBy(int set, int first, int all) {
            int when = Integer.bitCount(all) - Integer.bitCount(set) + 1;
            int times = when > due[first] ? when + 10 : when;
            return weight[first] * times + leastLost[set & ~(1 << first)];
        }
    }

    /** Houses side by side that may run machines, one set of them after the other. */
    private static final class Street {
        private int houses;
        private int better;
        private int worse;
        private int price;
        private int rests;
        private int bestRest;
        private int mostByRest;
        private int mostByAny;

        Street() {
            houses = 0;
        }

        void look(int n, int c, int w, int p) {
            houses = n;
            better = c;
            worse = w;
            price = p;
            rests = 0;
            bestRest = NONE;
            for (int set = 0; set < 1 << houses; set++) {
                int all = allHave(set);
                if (set == 0 || all > mostByAny) {
                    mostByAny = all;
                }
                if (isRest(set)) {
                    keepRest(set, all);
                }
            }
        }

        private void keepRest(int set, int all) {
            if (rests == 0 || all > mostByRest) {
                bestRest = set;
                mostByRest = all;
            }
            rests++;
        }

        private int allHave(int set) {
            int all = 0;
            for (int one = 0; one < houses; one++) {
                all += has(one, hasBit(set, one), set);
            }
            return all;
        }

        private boolean isRest(int set) {
            for (int one = 0; one < houses; one++) {
                boolean wouldRun = has(one, true, set) > has(one, false, set);
                if (wouldRun != hasBit(set, one)) {
                    return false;
                }
            }
            return true;
        }

        /** What one house has, running or not, beside neighbours who run by a set. */
        private int has(int one, boolean runs, int set) {
            int beside = 0;
            if (one > 0 && hasBit(set, one - 1)) {
                beside++;
            }
            if (one + 1 < houses && hasBit(set, one + 1)) {
                beside++;
            }
            return runs ? better - price - beside * worse : -2 * beside * worse;
        }

        int rests() {
            return rests;
        }

        /** NONE, if nothing rests. */
        int bestRest() {
            return bestRest;
        }

        int mostByRest() {
            return mostByRest;
        }

        int mostByAny() {
            return mostByAny;
        }
    }
}
