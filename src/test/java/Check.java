/** Counts the answers that are due and those that are not, and tells the latter. */
final class Check {
    private int right = 0;
    private int wrong = 0;

    void due(String call, long got, long want) {
        if (got == want) {
            right++;
            return;
        }
        wrong++;
        if (wrong <= 40) {
            System.out.println(call + " answered " + got + ", due is " + want);
        }
    }

    /** The fault of a text, on an object that has no other text. */
    void dueFault(String text, int want) {
        HotWeek x = new HotWeek();
        write(x, text);
        due("fault of '" + text + "'", x.fault(), want);
        due("week of '" + text + "'", x.week() == HotWeek.NOT ? 1 : 0, want == HotWeek.NONE ? 0 : 1);
    }

    /** Does a text that has no fault. */
    void tell(HotWeek x, String text) {
        write(x, text);
        due("fault of '" + text + "'", x.fault(), HotWeek.NONE);
        due("week of '" + text + "'", x.week(), text.chars().filter(c -> c == ';').count() + 1);
    }

    static int write(HotWeek x, String text) {
        int answer = 0;
        for (int from = 0; from < text.length(); from += 8) {
            int n = Math.min(8, text.length() - from);
            answer = x.write(packed(text.substring(from, from + n)), n);
        }
        return answer;
    }

    static long packed(String eight) {
        long bytes = 0;
        for (int i = 0; i < eight.length(); i++) {
            bytes |= (long) (eight.charAt(i) & 255) << 8 * i;
        }
        return bytes;
    }

    void end() {
        System.out.println(right + " answers are as due, " + wrong + " are not");
        if (wrong != 0) {
            System.exit(1);
        }
    }
}
