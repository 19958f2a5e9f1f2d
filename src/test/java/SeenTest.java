/** Promises 19 to 21: what is seen, and months by a seed. */
public final class SeenTest {
    private static final int NONE = -1, UNKNOWN = -101, OUTSIDE = -102, STATE = -103, FULL = -104;
    private static final int LEAST = Integer.MIN_VALUE, MOST = Integer.MAX_VALUE;
    private static final int ALL = (1 << 21) - 1;
    private static final Due due = new Due();

    public static void main(String[] args) {
        see();
        seenTogether();
        seenAsItIsNow();
        seenOfTaken();
        seeRefused();
        forget();
        months();
        monthsByTheDay();
        monthsRefused();
        due.end();
    }

    private static void see() {
        LeastMissed x = Due.days(Due.house("t15,c15,u15,p15,s15;99"), 2);
        int[][] seen = {{0, 0, 3, 1 << 5}, {1, 0, 3, 1 << 7}, {2, 9, 4, 1 << 4}, {3, 0, 1, 3 << 6},
            {4, 1, 0, (1 << 13) - 1}};
        for (int i = 0; i < seen.length; i++) {
            due.is("19: see " + i, x.see(seen[i][0], seen[i][1], seen[i][2]), i + 1);
            due.is("19: thing(" + i + ", 6)", x.thing(i, 6), seen[i][3]);
            due.is("19: thing(" + i + ", 7)", x.thing(i, 7), 0);
            due.is("19: count(8)", x.count(8), i + 1);
        }
        due.is("19: its looks are as they were", x.thing(0, 2), 5);
        x = Due.house("t15,u15;99");
        x.see(1, 0, 20);
        due.is("19: 20 looks", x.thing(1, 6), 1 << 20);
        x.see(0, 9, 0);
        due.is("19: 0 to 9 looks", x.thing(0, 6), (1 << 10) - 1);
        x.see(0, 9, 20);
        due.is("19: what cannot be", x.thing(0, 6), 0);
        due.is("19: nothing to watch", x.thing(0, 7), NONE);
        due.is("19: the other is as it was", x.thing(1, 7), 0);
    }

    private static void seenTogether() {
        LeastMissed x = Due.house("t15,p15;99");
        x.see(0, 6, 0);
        due.is("19: 6 at most", x.thing(0, 6), (1 << 7) - 1);
        x.see(0, 2, 0);
        due.is("19: 2 at most", x.thing(0, 6), (1 << 3) - 1);
        x.see(0, 1, 1);
        due.is("19: just 2", x.thing(0, 6), 1 << 2);
        due.is("19: of the other nothing", x.thing(1, 6), ALL);
        due.is("19: the same once more", x.see(0, 1, 1), 4);
    }

    private static void seenAsItIsNow() {
        LeastMissed x = Due.days(Due.house("t15,p15;99"), 2);
        x.see(0, 1, 3);
        due.is("19: since 3", x.thing(0, 6), 1 << 6);
        x.day();
        due.is("19: since 4 now", x.thing(0, 6), 1 << 7);
        x.touch(0);
        due.is("19: since 1 now", x.thing(0, 6), 1 << 4);
        x.change(0, 4, 1);
        due.is("19: a smell now", x.thing(0, 6), 1 << 7);
        Due.days(x, 20);
        due.is("19: no such looks now", x.thing(0, 6), 0);
    }

    private static void seenOfTaken() {
        LeastMissed x = Due.takes(Due.days(Due.house("t15,u15;99"), 2), 1);
        x.see(0, 9, 3);
        due.is("19: it does not wait", x.thing(0, 6), 1 << 5);
        due.is("19: when to watch it", x.thing(0, 7), 0);
        x.see(0, 0, 3);
        due.is("19: on any day", x.thing(0, 6), 1 << 5);
    }

    private static void seeRefused() {
        LeastMissed x = Due.house("t15,u15;99");
        int[][] wrong = {{-1, 0}, {10, 0}, {LEAST, 0}, {MOST, 0}, {0, -1}, {0, 21}, {0, LEAST}, {0, MOST}};
        for (int i = 0; i <= 6; i++) {
            for (int[] pair : wrong) {
                String call = pair[0] + ", " + pair[1] + ")";
                due.is("19: see(0, " + call, x.see(0, pair[0], pair[1]), OUTSIDE);
                due.is("19: UNKNOWN ahead: see(2, " + call, x.see(2, pair[0], pair[1]), UNKNOWN);
            }
            due.is("19: count(8)", x.count(8), i);
            due.is("19: see(-1, 0, 0)", x.see(-1, 0, 0), UNKNOWN);
            due.is("19: see " + i, x.see(i % 2, 9, 20), i < 6 ? i + 1 : FULL);
        }
        due.is("19: 6 at most", x.count(8), 6);
        due.is("19: no house", new LeastMissed().see(0, 0, 0), UNKNOWN);
    }

    private static void forget() {
        due.is("20: no house", new LeastMissed().forget(), 0);
        LeastMissed x = Due.house("t15,u15;99");
        due.is("20: nothing", x.forget(), 0);
        for (int i = 0; i < 6; i++) {
            x.see(0, 0, 3);
        }
        due.is("20: all", x.forget(), 6);
        due.is("20: count(8)", x.count(8), 0);
        due.is("20: thing(0, 6)", x.thing(0, 6), ALL);
        due.is("20: see again", x.see(0, 0, 4), 1);
        due.is("20: of that alone", x.thing(0, 6), 1 << 4);
    }

    private static void months() {
        // From seed 0, of three, the draws are 0 0 1 1 0 1 1 1 2 1.
        been("t32,t51;20", 1, 0, 0, 20, 12345);
        been("t32,t51;20", 4, 0, 0, 20, 1449466924);
        been("t32,t51;20", 5, 0, 5, 15, 229283573);
        been("t32,t51;20", 9, 0, 5, 15, 794471793);
        been("t32,t51;20", 10, 0, 8, 12, 551188310);
        been("t32,t51;02", 10, 0, 5, 0, 551188310);
        been("t32,t51;00", 10, 0, 0, 0, 551188310);
        been("t32,t51;99", 1, 2147483647, 0, 99, 1043980748);
        been("t11,t11;99", 2, 1, 0, 99, 377401575);
        been("t35,u55;20", 5, 0, 3, 17, 229283573);
        been("t36,u55;20", 5, 0, 5, 15, 229283573);
    }

    private static void been(String text, int days, int seed, int... want) {
        LeastMissed x = Due.house(text);
        long before = x.digest();
        for (int what = 0; what < 3; what++) {
            String call = "months(" + days + ", " + seed + ", " + what + ")";
            due.is("21: " + text + " " + call, x.months(days, seed, what), want[what]);
        }
        due.is("21: it changes nothing", x.digest(), before);
    }

    private static void monthsByTheDay() {
        LeastMissed x = Due.days(Due.house("t32,t51;20"), 1);
        due.is("21: days 2 to 4", x.months(3, 0, 0), 0);
        due.is("21: days 2 to 5", x.months(4, 0, 0), 3);
        due.is("21: the debt then", x.months(4, 0, 1), 17);
        Due.days(x, 4);
        due.is("21: days 6 to 9", x.months(4, 0, 0), 0);
        x = Due.house("t11,t11,t11,t11,t11,t11,t11;99");
        due.is("21: 60 days", x.months(60, 5, 0), 7);
        due.is("21: the debt then", x.months(60, 5, 1), 92);
    }

    private static void monthsRefused() {
        LeastMissed x = Due.house("t15,u15;99");
        int[][] wrong = {{0, 0, 0}, {61, 0, 0}, {-1, 0, 0}, {LEAST, 0, 0}, {MOST, 0, 0}, {1, -1, 0}, {1, LEAST, 0},
            {1, 0, -1}, {1, 0, 3}, {1, 0, LEAST}, {1, 0, MOST}};
        for (int[] row : wrong) {
            String call = "months(" + row[0] + ", " + row[1] + ", " + row[2] + ")";
            due.is("21: " + call, x.months(row[0], row[1], row[2]), OUTSIDE);
            due.is("21: OUTSIDE ahead of STATE: " + call,
                new LeastMissed().months(row[0], row[1], row[2]), OUTSIDE);
        }
        due.is("21: no house", new LeastMissed().months(1, 0, 0), STATE);
    }
}
