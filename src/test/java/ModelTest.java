import java.util.Random;

/** Runs of calls drawn by fixed seeds, each answer held against PlainModel's. */
public final class ModelTest {
    private static final String[] WORDS = {
        "room", "door", "sky", "sun", "house", "habit", "open", "shut", "home", "bare"};

    private final Check check = new Check();
    private final Random random;
    private final HotWeek x = new HotWeek();
    private final PlainModel y = new PlainModel();
    private final int run;
    private int calls = 0;

    private ModelTest(int run) {
        this.run = run;
        this.random = new Random(run);
    }

    public static void main(String[] args) {
        Check all = new Check();
        for (int run = 0; run < 400; run++) {
            ModelTest test = new ModelTest(run);
            test.go();
            all.due("wrong answers in run " + run, test.wrong, 0);
        }
        all.end();
    }

    private int wrong = 0;

    private void same(String call, int got, int want) {
        calls++;
        if (got != want) {
            wrong++;
            check.due("run " + run + " call " + calls + " " + call, got, want);
        }
    }

    /** A number from least to most, now and then one of the bounds, or just beyond. */
    private int any(int least, int most) {
        int kind = random.nextInt(40);
        if (kind == 0) {
            return least - 1;
        }
        if (kind == 1) {
            return most + 1;
        }
        if (kind == 2) {
            return least;
        }
        if (kind == 3) {
            return most;
        }
        return least + random.nextInt(most - least + 1);
    }

    private void go() {
        tellHouse();
        int budget = 60 + random.nextInt(200);
        while (calls < budget) {
            one(random.nextInt(100));
        }
        same("fault()", x.fault(), y.fault());
        if (run % 4 == 0) {
            for (int what = 0; what < 4; what++) {
                same("clock(" + what + ")", x.clock(what), y.clock(what));
            }
        }
    }

    private void one(int kind) {
        if (kind < 6) {
            String text = random.nextInt(3) == 0 ? brokenText() : text(1 + random.nextInt(9));
            doText(text);
        } else if (kind < 16) {
            int r = any(0, 4);
            int what = any(0, 6);
            same("room(" + r + ", " + what + ")", x.room(r, what), y.room(r, what));
        } else if (kind < 20) {
            int a = any(0, 4);
            int b = any(0, 4);
            same("door(" + a + ", " + b + ")", x.door(a, b), y.door(a, b));
        } else if (kind < 28) {
            int h = any(0, 95);
            same("out(" + h + ")", x.out(h), y.out(h));
        } else if (kind < 44) {
            int r = any(0, 4);
            int h = any(0, 95);
            int what = any(0, 2);
            same("warm(" + r + ", " + h + ", " + what + ")", x.warm(r, h, what), y.warm(r, h, what));
        } else if (kind < 60) {
            hours(kind);
        } else if (kind < 80) {
            worksAndGlasses(kind);
        } else {
            ringsAndStreets(kind);
        }
    }

    private void hours(int kind) {
        int r = any(0, 4);
        if (kind < 48) {
            int n = any(0, 4);
            same("night(" + n + ")", x.night(n), y.night(n));
        } else if (kind < 54) {
            int bound = random.nextBoolean() ? any(100, 500) : any(-999, 9999);
            same("above(" + r + ", " + bound + ")", x.above(r, bound), y.above(r, bound));
        } else {
            same("costs(" + r + ")", x.costs(r), y.costs(r));
        }
    }

    private void worksAndGlasses(int kind) {
        int r = any(0, 4);
        if (kind < 66) {
            int cost = random.nextInt(5) == 0 ? any(1, 999) : any(1, 60);
            int sun = any(0, 100);
            int leak = any(0, 20);
            same("work(" + r + ", " + cost + ", " + sun + ", " + leak + ")",
                    x.work(r, cost, sun, leak), y.work(r, cost, sun, leak));
        } else if (kind < 69) {
            int sum = random.nextInt(3) == 0 ? any(0, 9999) : any(0, 150);
            int what = any(0, 1);
            same("works(" + sum + ", " + what + ")", x.works(sum, what), y.works(sum, what));
        } else if (kind < 75) {
            int h = any(0, 95);
            int air = random.nextInt(4) == 0 ? any(-999, 9999) : near(r, h);
            same("read(" + r + ", " + h + ", " + air + ")", x.read(r, h, air), y.read(r, h, air));
        } else {
            int t = random.nextInt(4) == 0 ? any(0, 999) : any(0, 60);
            for (int what = 0; what < 5; what++) {
                same("learnt(" + t + ", " + what + ")", x.learnt(t, what), y.learnt(t, what));
            }
            same("learnt(" + t + ", 5)", x.learnt(t, 5), y.learnt(t, 5));
        }
    }

    private int near(int room, int hour) {
        int air = y.warm(room, hour, 0);
        return air == HotWeek.UNKNOWN ? 250 : air + random.nextInt(41) - 20;
    }

    private void ringsAndStreets(int kind) {
        if (kind < 88) {
            int f = any(0, 7);
            int weight = random.nextInt(3) == 0 ? any(0, 3) : any(0, 99);
            int due = any(1, 8);
            same("flat(" + f + ", " + weight + ", " + due + ")", x.flat(f, weight, due), y.flat(f, weight, due));
        } else if (kind < 91) {
            if (y.count(4) > 6 && random.nextInt(6) != 0) {
                return;
            }
            int i = any(-1, 8);
            same("ring(" + i + ")", x.ring(i), y.ring(i));
        } else if (kind < 98) {
            int most = random.nextBoolean() ? 99 : 12;
            int n = any(1, 8);
            int c = any(0, most);
            int w = any(0, most);
            int p = any(0, most);
            for (int what = -1; what < 5; what++) {
                same("street(" + n + ", " + c + ", " + w + ", " + p + ", " + what + ")",
                        x.street(n, c, w, p, what), y.street(n, c, w, p, what));
            }
        } else {
            for (int what = -1; what < 7; what++) {
                same("count(" + what + ")", x.count(what), y.count(what));
            }
        }
    }

    private void tellHouse() {
        StringBuilder house = new StringBuilder();
        for (int r = 0; r < 1 + random.nextInt(5); r++) {
            house.append(house.length() > 0 ? ";" : "").append("room ").append(r).append(' ')
                    .append(random.nextInt(601)).append(' ').append(random.nextInt(601)).append(' ')
                    .append(random.nextInt(4)).append(' ').append(random.nextInt(10));
        }
        doText(house.toString());
        doText(text(6));
    }

    private void doText(String text) {
        for (int from = 0; from < text.length();) {
            int n = Math.min(text.length() - from, 1 + random.nextInt(8));
            long bytes = Check.packed(text.substring(from, from + n));
            if (n < 8 && random.nextInt(3) == 0) {
                bytes |= random.nextLong() << 8 * n;
            }
            same("write(" + bytes + ", " + n + ")", x.write(bytes, n), y.write(bytes, n));
            from += n;
        }
        same("fault() of '" + text + "'", x.fault(), y.fault());
        same("week() of '" + text + "'", x.week(), y.week());
        if (y.count(1) > 0) {
            same("erase()", x.erase(), y.erase());
        }
    }

    private String blanks() {
        return random.nextInt(12) == 0 ? " ".repeat(random.nextInt(3)) : "";
    }

    private String text(int lines) {
        StringBuilder all = new StringBuilder();
        for (int i = 0; i < lines; i++) {
            all.append(i == 0 ? "" : ";").append(blanks());
            String[] form = PlainModel.FORMS[random.nextInt(10)].split(" ");
            all.append(form[0]);
            int before = -1;
            for (int k = 1; k < form.length; k++) {
                int number = random.nextInt(Integer.parseInt(form[k]) + 1);
                if (number == before && form[0].equals("door")) {
                    number = (number + 1) % 5;
                }
                before = number;
                boolean mayTouch = k == 1 && random.nextInt(4) == 0;
                all.append(mayTouch ? "" : " ").append(blanks()).append(number);
            }
            all.append(blanks());
        }
        return all.toString();
    }

    private String brokenText() {
        StringBuilder all = new StringBuilder(text(1 + random.nextInt(4)));
        String signs = " ;;0123456789abcdemoprstuy.,`{/:AZ\u00e9\u0000\n-";
        for (int k = 0; k < 1 + random.nextInt(2); k++) {
            int at = random.nextInt(all.length());
            char sign = signs.charAt(random.nextInt(signs.length()));
            switch (random.nextInt(4)) {
                case 0 -> all.insert(at, sign);
                case 1 -> all.setCharAt(at, sign);
                case 2 -> all.deleteCharAt(at);
                default -> all.setLength(at + 1);
            }
            if (all.length() == 0) {
                all.append(WORDS[random.nextInt(10)]);
            }
        }
        return all.toString();
    }
}
