/** Promises 1 to 8: what is told. */
public final class ToldTest {
    private static final Check CHECK = new Check();

    public static void main(String[] args) {
        newObject();
        write();
        writeToTheFullText();
        erase();
        fault();
        faultOfTokens();
        faultOfTheFullText();
        faultBounds();
        week();
        weekOfTheFullText();
        whatWasToldStays();
        spansGoRound();
        bare();
        room();
        door();
        doors();
        out();
        outOfTheLastSkies();
        CHECK.end();
    }

    private static void newObject() {
        HotWeek x = new HotWeek();
        for (int what = 0; what < 5; what++) {
            CHECK.due("count(" + what + ") at first", x.count(what), 0);
        }
        CHECK.due("count(5) at first", x.count(5), 0xffffff);
        for (int r = 0; r < 5; r++) {
            CHECK.due("room at first", x.room(r, 0), HotWeek.UNKNOWN);
            CHECK.due("door at first", x.door(r, (r + 1) % 5), 0);
        }
        CHECK.due("night(NONE) at first", x.night(HotWeek.NONE), 0);
        CHECK.due("ring(NONE) at first", x.ring(HotWeek.NONE), 0);
        CHECK.due("NONE", HotWeek.NONE, -1);
        CHECK.due("UNKNOWN", HotWeek.UNKNOWN, -2);
        CHECK.due("OUTSIDE", HotWeek.OUTSIDE, -3);
        CHECK.due("NOT", HotWeek.NOT, -4);
        CHECK.due("FULL", HotWeek.FULL, -5);
    }

    private static void write() {
        HotWeek x = new HotWeek();
        CHECK.due("write 0", x.write(0, 0), HotWeek.OUTSIDE);
        CHECK.due("write 9", x.write(0, 9), HotWeek.OUTSIDE);
        CHECK.due("write min", x.write(0, Integer.MIN_VALUE), HotWeek.OUTSIDE);
        CHECK.due("write max", x.write(0, Integer.MAX_VALUE), HotWeek.OUTSIDE);
        CHECK.due("nothing written", x.count(1), 0);
        CHECK.due("write 1, the other bytes left", x.write(Check.packed("sXXXXXXX"), 1), 1);
        CHECK.due("write 7", x.write(Check.packed("un 7    "), 7), 8);
        CHECK.due("fault", x.fault(), HotWeek.NONE);
        CHECK.due("write of bytes above 127", x.write(-1L, 8), 16);
        CHECK.due("fault at the first of them", x.fault(), 8);
        for (int i = 2; i < 25; i++) {
            CHECK.due("write", x.write(0, 8), 8 * i + 8);
        }
        CHECK.due("write to the full text", x.write(0, 1), HotWeek.FULL);
        CHECK.due("OUTSIDE ahead of FULL", x.write(0, 0), HotWeek.OUTSIDE);
        x.erase();
        for (int i = 0; i < 24; i++) {
            x.write(0, 8);
        }
        x.write(0, 3);
        CHECK.due("write of 6 to 195", x.write(0, 6), HotWeek.FULL);
        CHECK.due("195 stay", x.count(1), 195);
        CHECK.due("write of 5 to 195", x.write(0, 5), 200);
    }

    /** Every n: 200 bytes can be had, 201 cannot, and the bytes that are there stay. */
    private static void writeToTheFullText() {
        for (int n = 1; n <= 8; n++) {
            HotWeek x = new HotWeek();
            Check.write(x, " ".repeat(200 - n));
            CHECK.due("write of " + n + " to " + (200 - n), x.write(0x2020202020202020L, n), 200);
            CHECK.due("write of 1 to 200", x.write(0, 1), HotWeek.FULL);
            x = new HotWeek();
            Check.write(x, "sun 7" + " ".repeat(196 - n));
            CHECK.due("write of " + n + " to " + (201 - n), x.write(0, n), HotWeek.FULL);
            CHECK.due("the text stays", x.count(1), 201 - n);
            CHECK.due("and has no fault", x.fault(), HotWeek.NONE);
        }
        HotWeek x = new HotWeek();
        CHECK.due("write -1", x.write(0, -1), HotWeek.OUTSIDE);
        CHECK.due("the eighth byte, its sign", x.write(Check.packed("sun 7  ") | 0xffL << 56, 8), 8);
        CHECK.due("is a token of its own", x.fault(), 7);
    }

    private static void erase() {
        HotWeek x = new HotWeek();
        CHECK.due("erase of nothing", x.erase(), 0);
        Check.write(x, "sun 7;sun");
        CHECK.due("erase", x.erase(), 9);
        CHECK.due("count(1)", x.count(1), 0);
        CHECK.due("erase again", x.erase(), 0);
        Check.write(x, "sun 8");
        CHECK.due("only what came behind", x.week(), 1);
        Check.write(x, ";".repeat(200));
        CHECK.due("erase of the full text", x.erase(), 200);
        CHECK.due("write behind it", x.write(Check.packed("sun 9"), 5), 5);
        CHECK.due("has no fault", x.fault(), HotWeek.NONE);
        x.week();
        CHECK.due("erase of what is done", x.erase(), 0);
    }

    private static void fault() {
        CHECK.dueFault("", 0);
        CHECK.dueFault("   ", 3);
        CHECK.dueFault("sun", 3);
        CHECK.dueFault("sun  ", 5);
        CHECK.dueFault("su", 0);
        CHECK.dueFault("suns 7", 0);
        CHECK.dueFault("suna 7", 0);
        CHECK.dueFault("sunz 7", 0);
        CHECK.dueFault("sun` 7", 3);
        CHECK.dueFault("sun{ 7", 3);
        CHECK.dueFault("sun / 7", 4);
        CHECK.dueFault("sun : 7", 4);
        CHECK.dueFault("run 7", 0);
        CHECK.dueFault("sum 7", 0);
        CHECK.dueFault("sun 7;ssn 7", 6);
        CHECK.dueFault("  sunsun 7", 2);
        CHECK.dueFault("Sun 7", 0);
        CHECK.dueFault("sun7", HotWeek.NONE);
        CHECK.dueFault("  sun  7  ", HotWeek.NONE);
        CHECK.dueFault("sun 007", HotWeek.NONE);
        CHECK.dueFault("sun 0007", 4);
        CHECK.dueFault("sun 7 7", 6);
        CHECK.dueFault("sun 7sun 7", 5);
        CHECK.dueFault("sun -7", 4);
        CHECK.dueFault("sun 7.", 5);
        CHECK.dueFault("sun 7,sun 8", 5);
        CHECK.dueFault(";", 0);
        CHECK.dueFault("sun;sun 8", 3);
        CHECK.dueFault("sun 7;", 6);
        CHECK.dueFault("sun 7; ", 7);
        CHECK.dueFault("sun 7;;sun 8", 6);
        CHECK.dueFault("sun 7 ; sun 8", HotWeek.NONE);
        CHECK.dueFault("7", 0);
        CHECK.dueFault("sun\u00007", 3);
        CHECK.dueFault("sun\t7", 3);
        CHECK.dueFault("sun \u00ff", 4);
        CHECK.dueFault("sun 9999999999999999999", 4);
        CHECK.dueFault("room 1 2 3 3 9;room 5 2 3 3 9", 20);
        String seven = "sun 1;sun 1;sun 1;sun 1;sun 1;sun 1;sun 1;";
        CHECK.dueFault(seven + "sun 1", HotWeek.NONE);
        CHECK.dueFault(seven + "sun 1 ;", 48);
        CHECK.dueFault(seven + "sun 1;sun 1", 47);
        CHECK.dueFault(seven + "sun 1 x", 48);
        CHECK.dueFault(seven, 42);
    }

    /** A token that is none of what may stand there: a number for a word, a word for a number, others. */
    private static void faultOfTokens() {
        CHECK.dueFault("4 600 600 3 9", 0);
        CHECK.dueFault("sun 7;0", 6);
        CHECK.dueFault("sun 7 ; 4 600 600 3 9", 8);
        CHECK.dueFault("sun sun", 4);
        CHECK.dueFault("sun ; 7", 4);
        CHECK.dueFault("s un 7", 0);
        CHECK.dueFault("sU 7", 0);
        CHECK.dueFault("home 2 3;hom 2 3", 9);
        CHECK.dueFault("home 2 3;homee 2 3", 9);
        // the blank is 32 alone; the number's last place is the third
        CHECK.dueFault("sun \u001f7", 4);
        CHECK.dueFault("sun !7", 4);
        CHECK.dueFault("sun 7\u001f", 5);
        CHECK.dueFault("sun 7!", 5);
        CHECK.dueFault("sun \u00a07", 4);
        CHECK.dueFault("sun 099", HotWeek.NONE);
        CHECK.dueFault("sun 100", 4);
        CHECK.dueFault("sun 0099", 4);
        CHECK.dueFault("sun 0000", 4);
        CHECK.dueFault("home 023 000", HotWeek.NONE);
        CHECK.dueFault("room 4 999 0 0 0", 7);
        // blanks need not stand where a token ends without
        CHECK.dueFault("room4 600 600 3 9;door4 3 10;sky500 500 50;sun99;bare0", HotWeek.NONE);
        CHECK.dueFault("habit4 3;open4 23 23;shut4 23 23;home23 23;house40 40 20 40", HotWeek.NONE);
        CHECK.dueFault("habit4 34", 7);
        CHECK.dueFault("  habit  4  3  ;  bare  4  ", HotWeek.NONE);
        HotWeek x = new HotWeek();
        Check.write(x, "su");
        CHECK.due("fault of a word begun", x.fault(), 0);
        Check.write(x, "n 7");
        CHECK.due("fault of the word ended", x.fault(), HotWeek.NONE);
        Check.write(x, "7");
        CHECK.due("fault of a longer number", x.fault(), HotWeek.NONE);
        Check.write(x, "7");
        CHECK.due("fault of a number out of its bounds", x.fault(), 4);
        CHECK.due("fault asked again", x.fault(), 4);
        CHECK.due("fault takes no byte", x.count(1), 7);
    }

    private static void faultOfTheFullText() {
        String blanks = " ".repeat(195);
        CHECK.dueFault("sun 7" + blanks, HotWeek.NONE);
        CHECK.dueFault(blanks + "sun 7", HotWeek.NONE);
        CHECK.dueFault("sun" + blanks + " 7", HotWeek.NONE);
        CHECK.dueFault(" ".repeat(200), 200);
        CHECK.dueFault("  sun" + blanks, 200);
        CHECK.dueFault("sun 7" + " ".repeat(194) + ";", 200);
        CHECK.dueFault("sun 7" + " ".repeat(194) + "x", 199);
        CHECK.dueFault("a".repeat(200), 0);
        CHECK.dueFault("sun " + "7".repeat(196), 4);
        CHECK.dueFault(";".repeat(200), 0);
    }

    /** Each number of each line: its bound stands, one more is a fault, and so is the end ahead of it. */
    private static void faultBounds() {
        String[] forms = {"room 4 600 600 3 9", "door 4 3 10", "door 3 4 10", "sky 500 500 50", "sun 99",
            "house 40 40 20 40", "habit 4 3", "open 4 23 23", "shut 4 23 23", "home 23 23", "bare 4"};
        for (String form : forms) {
            CHECK.dueFault(form, HotWeek.NONE);
            CHECK.dueFault(form.replaceAll("[0-9]", "0").replace("door 0 0", "door 0 1"), HotWeek.NONE);
            String[] parts = form.split(" ");
            StringBuilder ahead = new StringBuilder(parts[0]);
            for (int i = 1; i < parts.length; i++) {
                CHECK.dueFault(ahead.toString(), ahead.length());
                ahead.append(' ');
                int bound = form.startsWith("door") && i <= 2 ? 4 : Integer.parseInt(parts[i]);
                CHECK.dueFault(ahead.toString() + (bound + 1), ahead.length());
                CHECK.dueFault(ahead + "x", ahead.length());
                ahead.append(parts[i]);
            }
            CHECK.dueFault(ahead + " 0", ahead.length() + 1);
        }
        CHECK.dueFault("door 2 2 1", 7);
        CHECK.dueFault("door 2 002 1", 7);
        CHECK.dueFault("open 2 2 2", HotWeek.NONE);
        CHECK.dueFault("door 1 2 3;door 2 1 3", HotWeek.NONE);
    }

    private static void week() {
        HotWeek x = new HotWeek();
        CHECK.due("week of nothing", x.week(), HotWeek.NOT);
        Check.write(x, "room 1 1 2 3 4;room 9 1 2 3 4");
        CHECK.due("week of a fault", x.week(), HotWeek.NOT);
        CHECK.due("text stays", x.count(1), 29);
        CHECK.due("nothing is done", x.count(0), 0);
        x.erase();
        CHECK.tell(x, "room 1 1 2 3 4;bare 1;room 2 5 6 0 1;room 2 7 8 1 2");
        CHECK.due("text is empty", x.count(1), 0);
        CHECK.due("in their order: bare", x.room(1, 0), HotWeek.UNKNOWN);
        CHECK.due("in their order: room", x.room(2, 0), 7);
        CHECK.tell(x, "habit 2 3;home 5 5");
        CHECK.due("what was told stays", x.room(2, 1), 8);
        CHECK.tell(x, "bare 2;room 2 9 9 0 0");
        CHECK.due("the habit stays", x.room(2, 4), 3);
        Check.write(x, "sun");
        CHECK.due("a faulty text again", x.week(), HotWeek.NOT);
        Check.write(x, " 5");
        CHECK.due("mended", x.week(), 1);
    }

    private static void weekOfTheFullText() {
        HotWeek x = new HotWeek();
        String seven = "sun 1;sun 2;sun 3;sun 4;sun 5;sun 6;sun 7;";
        Check.write(x, seven + " ".repeat(158));
        CHECK.due("week of seven and nothing", x.week(), HotWeek.NOT);
        CHECK.due("the full text stays", x.erase(), 200);
        Check.write(x, seven + "room 3 1 2 3 4" + " ".repeat(144));
        CHECK.due("count(1)", x.count(1), 200);
        CHECK.due("week of eight", x.week(), 8);
        CHECK.due("the eighth is done", x.room(3, 3), 4);
        CHECK.due("week again", x.week(), HotWeek.NOT);
        CHECK.tell(x, "sun 0");
    }

    /** What of the house can be seen from without: 35 of rooms, 10 of doors, 96 of the sky, ... */
    private static int[] seen(HotWeek x) {
        int[] all = new int[157];
        int n = 0;
        for (int r = 0; r < 5; r++) {
            for (int what = 0; what < 7; what++) {
                all[n++] = x.room(r, what);
            }
            for (int other = 0; other < r; other++) {
                all[n++] = x.door(r, other);
            }
        }
        for (int hour = 0; hour < 96; hour++) {
            all[n++] = x.out(hour);
        }
        all[n++] = x.count(5);
        for (int r = 0; r < 5; r++) {
            all[n++] = x.warm(r, 6, 0);
            all[n++] = x.warm(r, 6, 1);
            all[n++] = x.night(r);
        }
        return all;
    }

    /** What earlier texts told stays, where nothing else is told: a line told again as it was changes nothing. */
    private static void whatWasToldStays() {
        String[] told = {"room 0 300 280 1 2", "room 4 310 290 3 1", "door 1 0 5", "door 4 3 6", "sky 150 390 20",
            "sun 41", "house 11 22 13 34", "habit 2 1", "open 0 21 6", "shut 1 11 20", "home 17 9", "habit 0 0"};
        int[] first = null;
        for (int last = 0; last < told.length; last++) {
            HotWeek x = new HotWeek();
            for (int i = 1; i <= told.length; i++) {
                CHECK.tell(x, told[(last + i) % told.length]);
            }
            int[] now = seen(x);
            first = last == 0 ? now : first;
            for (int i = 0; i < now.length; i++) {
                CHECK.due("seen " + i + ", told last: " + told[last], now[i], first[i]);
            }
        }
        HotWeek x = new HotWeek();
        CHECK.tell(x, "habit 2 3;open 2 4 6;shut 2 7 8;door 2 1 9;home 1 2");
        CHECK.tell(x, "room 2 600 0 3 9;sun 1;sky 1 1 1;house 1 1 1 1");
        CHECK.tell(x, "room 2 0 600 0 0");
        int[] want = {0, 600, 0, 0, 3, 3 << 4, 1 << 7};
        for (int what = 0; what < 7; what++) {
            CHECK.due("told again, room(2, " + what + ")", x.room(2, what), want[what]);
        }
        CHECK.due("told again, its door", x.door(1, 2), 9);
        CHECK.due("told again, home", x.count(5), 2);
    }

    /** From every A to every B, as one goes on: open and shut A itself: none; home A itself: all. */
    private static void spansGoRound() {
        for (int a = 0; a < 24; a++) {
            HotWeek x = new HotWeek();
            CHECK.tell(x, "room 0 1 1 0 0");
            for (int b = 0; b < 24; b++) {
                int span = 0;
                for (int hour = a; hour % 24 != b; hour++) {
                    span |= 1 << hour % 24;
                }
                CHECK.tell(x, "open 0 " + a + " " + b + ";shut 0 " + b + " " + a + ";home " + a + " " + b);
                CHECK.due("open " + a + " " + b, x.room(0, 5), span);
                CHECK.due("shut " + b + " " + a, x.room(0, 6), a == b ? 0 : 0xffffff & ~span);
                CHECK.due("home " + a + " " + b, x.count(5), a == b ? 0xffffff : span);
            }
        }
    }

    private static void bare() {
        HotWeek x = new HotWeek();
        CHECK.tell(x, "bare 0;bare 4");
        CHECK.due("bare, not told ahead", x.count(0), 0);
        for (int r = 0; r < 5; r++) {
            CHECK.tell(x, "room " + r + " 1 2 3 4");
            CHECK.due("told", x.count(0), r + 1);
        }
        for (int r = 0; r < 5; r++) {
            CHECK.tell(x, "bare " + r + ";bare " + r);
            CHECK.due("bare " + r, x.room(r, 0), HotWeek.UNKNOWN);
            CHECK.due("the others stay", x.count(0), 4 - r);
        }
        CHECK.tell(x, "bare 3;room 3 5 6 1 2");
        CHECK.due("told behind bare", x.room(3, 0), 5);
        CHECK.tell(x, "room 3 7 8 1 2;bare 3");
        CHECK.due("bare behind told", x.room(3, 0), HotWeek.UNKNOWN);
    }

    private static void room() {
        HotWeek x = new HotWeek();
        CHECK.tell(x, "habit 3 2;open 3 22 3;shut 3 9 11;room 3 600 0 3 9");
        int[] want = {600, 0, 3, 9, 2, 7 | 3 << 22, 3 << 9};
        for (int what = 0; what < 7; what++) {
            CHECK.due("room(3, " + what + ")", x.room(3, what), want[what]);
        }
        CHECK.due("room(3, 7)", x.room(3, 7), HotWeek.OUTSIDE);
        CHECK.due("room(3, -1)", x.room(3, -1), HotWeek.OUTSIDE);
        CHECK.due("room(2, 7), not told", x.room(2, 7), HotWeek.UNKNOWN);
        CHECK.due("room(5, 0)", x.room(5, 0), HotWeek.UNKNOWN);
        CHECK.due("room(-1, 0)", x.room(-1, 0), HotWeek.UNKNOWN);
        CHECK.due("room(max, 0)", x.room(Integer.MAX_VALUE, 0), HotWeek.UNKNOWN);
        CHECK.due("room(min, 0)", x.room(Integer.MIN_VALUE, 0), HotWeek.UNKNOWN);
        CHECK.tell(x, "open 3 23 0;shut 3 0 23");
        CHECK.due("open 23 0", x.room(3, 5), 1 << 23);
        CHECK.due("shut 0 23", x.room(3, 6), (1 << 23) - 1);
        CHECK.tell(x, "open 3 7 7;shut 3 0 0");
        CHECK.due("open 7 7", x.room(3, 5), 0);
        CHECK.due("shut 0 0", x.room(3, 6), 0);
        CHECK.tell(x, "bare 3");
        CHECK.due("bare", x.room(3, 0), HotWeek.UNKNOWN);
        CHECK.tell(x, "room 4 1 2 0 0");
        CHECK.due("habit at first", x.room(4, 4), 0);
        CHECK.due("open at first", x.room(4, 5), 0);
        CHECK.due("shut at first", x.room(4, 6), 0);
    }

    private static void door() {
        HotWeek x = new HotWeek();
        CHECK.tell(x, "door 3 1 10;door 0 4 7");
        CHECK.due("door(1, 3)", x.door(1, 3), 10);
        CHECK.due("door(3, 1)", x.door(3, 1), 10);
        CHECK.due("door(4, 0)", x.door(4, 0), 7);
        CHECK.due("door(0, 1)", x.door(0, 1), 0);
        CHECK.due("door(2, 2)", x.door(2, 2), HotWeek.UNKNOWN);
        CHECK.due("door(0, 5)", x.door(0, 5), HotWeek.UNKNOWN);
        CHECK.due("door(5, 0)", x.door(5, 0), HotWeek.UNKNOWN);
        CHECK.due("door(-1, 0)", x.door(-1, 0), HotWeek.UNKNOWN);
        CHECK.due("door(0, min)", x.door(0, Integer.MIN_VALUE), HotWeek.UNKNOWN);
        CHECK.tell(x, "door 1 3 2");
        CHECK.due("door told anew", x.door(3, 1), 2);
    }

    /** Between any two, from either side, none other with them; none told at first, and told 0 again. */
    private static void doors() {
        for (int a = 0; a < 5; a++) {
            for (int b = 0; b < 5; b++) {
                if (a == b) {
                    CHECK.due("door of one and itself", new HotWeek().door(a, b), HotWeek.UNKNOWN);
                    continue;
                }
                HotWeek x = new HotWeek();
                CHECK.tell(x, "door " + a + " " + b + " 1");
                for (int c = 0; c < 5; c++) {
                    for (int d = 0; d < c; d++) {
                        boolean isIt = Math.max(a, b) == c && Math.min(a, b) == d;
                        CHECK.due("door", x.door(c, d), isIt ? 1 : 0);
                        CHECK.due("door", x.door(d, c), isIt ? 1 : 0);
                    }
                }
                CHECK.tell(x, "door " + b + " " + a + " 0");
                CHECK.due("door told 0", x.door(a, b), 0);
            }
        }
        HotWeek x = new HotWeek();
        CHECK.due("door(4, -1)", x.door(4, -1), HotWeek.UNKNOWN);
        CHECK.due("door(-1, -1)", x.door(-1, -1), HotWeek.UNKNOWN);
        CHECK.due("door(5, 5)", x.door(5, 5), HotWeek.UNKNOWN);
        CHECK.due("door(max, 4)", x.door(Integer.MAX_VALUE, 4), HotWeek.UNKNOWN);
    }

    private static void out() {
        HotWeek x = new HotWeek();
        // 190 and 310 the day ahead: 310 - 120 * 9 / 14
        CHECK.due("out(0)", x.out(0), 310 - 77);
        CHECK.due("out(4)", x.out(4), 310 - 111);
        CHECK.due("out(5)", x.out(5), 200);
        CHECK.due("out(6)", x.out(6), 212);
        CHECK.due("out(14)", x.out(14), 308);
        CHECK.due("out(15)", x.out(15), 320);
        CHECK.due("out(23)", x.out(23), 320 - 68);
        CHECK.due("out(28)", x.out(28), 320 - 111);
        CHECK.due("out(29)", x.out(29), 210);
        CHECK.due("out(95)", x.out(95), 350 - 68);
        CHECK.due("out(96)", x.out(96), HotWeek.UNKNOWN);
        CHECK.due("out(-1)", x.out(-1), HotWeek.UNKNOWN);
        CHECK.due("out(min)", x.out(Integer.MIN_VALUE), HotWeek.UNKNOWN);
        CHECK.tell(x, "sky 105 100 50");
        // falls and rises are cut towards 0: -5 * 5 / 10 is -2, -5 * 9 / 14 is -3
        CHECK.due("out(10) by less", x.out(10), 103);
        CHECK.due("out(24) by less", x.out(24), 103);
        CHECK.due("out(0) by less", x.out(0), 53);
        CHECK.due("out(77) by less", x.out(77), 255);
    }

    private static void outOfTheLastSkies() {
        HotWeek x = new HotWeek();
        CHECK.due("out(max)", x.out(Integer.MAX_VALUE), HotWeek.UNKNOWN);
        CHECK.tell(x, "sky 0 500 50");
        // 500 * 9 / 14 is 321, 500 * 13 / 14 is 464; of day 0 by 50 less
        int[] hours = {0, 4, 5, 6, 14, 15, 16, 23, 24, 28, 29, 72, 76, 77, 87, 95};
        int[] rises = {129, -14, 0, 50, 450, 500, 465, 215, 179, 36, 50, 279, 136, 150, 650, 365};
        int[] falls = {321, 464, 500, 450, 50, 0, 35, 285, 321, 464, 550, 421, 564, 650, 150, 435};
        for (int i = 0; i < hours.length; i++) {
            CHECK.due("sky 0 500 50, out(" + hours[i] + ")", x.out(hours[i]), rises[i]);
        }
        CHECK.tell(x, "sky 500 0 50");
        falls[0] -= 50;
        falls[1] -= 50;
        for (int i = 0; i < hours.length; i++) {
            CHECK.due("sky 500 0 50, out(" + hours[i] + ")", x.out(hours[i]), falls[i]);
        }
        CHECK.tell(x, "sky 0 0 0");
        for (int hour = 0; hour < 96; hour++) {
            CHECK.due("sky 0 0 0, out(" + hour + ")", x.out(hour), 0);
        }
        CHECK.tell(x, "sky 500 500 50");
        for (int hour = 0; hour < 96; hour++) {
            CHECK.due("sky 500 500 50, out(" + hour + ")", x.out(hour), 500 + 50 * ((hour + 19) / 24 - 1));
        }
        CHECK.tell(x, "sky 0 1 0");
        // less than one is cut: the hot hour alone is 1, but what is taken off it is cut as well
        for (int hour = 5; hour < 29; hour++) {
            CHECK.due("sky 0 1 0, out(" + hour + ")", x.out(hour), hour < 15 ? 0 : 1);
        }
    }
}
