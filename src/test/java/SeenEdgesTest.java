import java.math.BigInteger;

/** SEEN, WATCH, MONTHS and DRAWS, and promises 19 to 21: each boundary by a test of its own. */
public final class SeenEdgesTest {
    private static final int NONE = -1, UNKNOWN = -101, OUTSIDE = -102, STATE = -103, FULL = -104;
    private static final int MOST = Integer.MAX_VALUE;
    private static final int ALL = (1 << 21) - 1;
    private static final int THING = 0, CLOCK = 1, CUP = 2, PIANO = 3, SMELL = 4;
    private static final String SEVEN = "t10,c29,u38,p47,s56,t65,c94;83";

    public static void main(String[] args) {
        Due due = new Due();
        tell(due);
        due.end();
    }

    static void tell(Due due) {
        looks(due);
        looksOfAll(due);
        looksBySince(due);
        watch(due);
        see(due);
        seeRefused(due);
        seeOrder(due);
        forget(due);
        monthsDraw(due);
        monthsTake(due);
        draws(due);
        months(due);
        monthsRefused(due);
    }

    /** LOOKS that a THING of that KIND, looked at just now, can have by what is SEEN. */
    private static int looksBy(int kind, int day, int missed) {
        LeastMissed x = Due.house("t15,t15;99");
        x.change(0, kind, 1);
        x.see(0, day, missed);
        return x.thing(0, 6);
    }

    private static void looks(Due due) {
        due.sentence("Terms, SEEN: LOOKS (0 to 20) it can have, as bits", () -> {
            LeastMissed x = Due.house(SEVEN);
            for (int thing = 0; thing < 7; thing++) {
                due.is("nothing SEEN, thing(" + thing + ", 6)", x.thing(thing, 6), ALL);
            }
            for (int looks = 0; looks <= 20; looks++) {
                due.is("a THING, " + looks, looksBy(THING, 0, looks), 1 << looks);
                due.is("a CUP, " + looks, looksBy(CUP, 0, looks), 1 << looks);
            }
            due.is("a PIANO, 0", looksBy(PIANO, 0, 0), 3);
            due.is("a PIANO, 9", looksBy(PIANO, 0, 9), 3 << 18);
            due.is("a PIANO, 10", looksBy(PIANO, 0, 10), 1 << 20);
            due.is("a PIANO, 11", looksBy(PIANO, 0, 11), 0);
        });
        due.sentence("Terms, SEEN: behind so many DAYS from now (0 to 9)", () -> {
            due.is("a THING, 0 behind 0", looksBy(THING, 0, 0), 1);
            due.is("a THING, 0 behind 1", looksBy(THING, 1, 0), 3);
            due.is("a THING, 0 behind 9", looksBy(THING, 9, 0), (1 << 10) - 1);
            due.is("a THING, 1 behind 9", looksBy(THING, 9, 1), 1 << 10);
            due.is("a THING, 11 behind 9", looksBy(THING, 9, 11), 1 << 20);
            due.is("a THING, 12 behind 9", looksBy(THING, 9, 12), 0);
            due.is("a CLOCK, 0 behind 9", looksBy(CLOCK, 9, 0), (1 << 19) - 1);
            due.is("a CLOCK, 2 behind 9", looksBy(CLOCK, 9, 2), 1 << 20);
            due.is("a CUP, 20 behind 9", looksBy(CUP, 9, 20), 1 << 20);
            due.is("a PIANO, 1 behind 9", looksBy(PIANO, 9, 1), 1 << 20);
            due.is("a SMELL, 4 behind 4", looksBy(SMELL, 4, 4), 1 << 20);
            due.is("a SMELL, 0 behind 5", looksBy(SMELL, 5, 0), ALL);
            due.is("a SMELL, 1 behind 5", looksBy(SMELL, 5, 1), 0);
        });
    }

    private static void looksOfAll(Due due) {
        due.sentence("Terms, SEEN: so that all that is SEEN of it is so", () -> {
            LeastMissed x = Due.house("t15,t15;99");
            x.see(0, 6, 0);
            x.see(0, 2, 0);
            due.is("2 at most", x.thing(0, 6), 7);
            x.see(0, 1, 1);
            due.is("just 2", x.thing(0, 6), 4);
            x.see(0, 1, 1);
            x.see(0, 1, 1);
            due.is("the same again", x.thing(0, 6), 4);
            x.see(0, 9, 1);
            due.is("the sixth, too", x.thing(0, 6), 0);
        });
        due.sentence("Terms, SEEN: of it, and of no other", () -> {
            LeastMissed x = Due.house("t15,t15,t15;99");
            x.see(0, 0, 3);
            x.see(2, 0, 4);
            due.is("thing(0, 6)", x.thing(0, 6), 1 << 3);
            due.is("thing(1, 6)", x.thing(1, 6), ALL);
            due.is("thing(2, 6)", x.thing(2, 6), 1 << 4);
        });
        due.sentence("Terms, SEEN: what its LOOKS are is not known", () -> {
            LeastMissed x = Due.house("t15,t15;99");
            x.see(0, 0, 20);
            due.is("thing(0, 6)", x.thing(0, 6), 1 << 20);
            due.is("thing(0, 2)", x.thing(0, 2), 5);
            due.is("thing(0, 4)", x.thing(0, 4), 5);
        });
    }

    private static void looksBySince(Due due) {
        due.sentence("Terms, SEEN: SINCE as it is", () -> {
            LeastMissed x = Due.days(Due.house("t15,t15;99"), 2);
            x.see(0, 1, 3);
            due.is("SINCE 2, behind 1", x.thing(0, 6), 1 << 6);
            x.day();
            due.is("SINCE 3, behind 1", x.thing(0, 6), 1 << 7);
            x.touch(0);
            due.is("SINCE 0, behind 1", x.thing(0, 6), 1 << 4);
            LeastMissed y = Due.days(Due.house("t15,t15;99"), 20);
            y.see(0, 9, 0);
            due.is("SINCE 20, behind 9", y.thing(0, 6), ALL);
        });
        due.sentence("Terms, SEEN: a DAY is none for one that is TAKEN", () -> {
            LeastMissed x = Due.takes(Due.days(Due.house("t15,u15;99"), 2), 1);
            x.see(0, 9, 3);
            due.is("thing(0, 6)", x.thing(0, 6), 1 << 5);
            x.see(0, 0, 3);
            due.is("thing(0, 6), on any DAY", x.thing(0, 6), 1 << 5);
        });
    }

    private static void watch(Due due) {
        due.sentence("Terms, WATCH: so that fewest are left at worst", () -> {
            LeastMissed x = Due.house(SEVEN);
            for (int thing = 0; thing < 7; thing++) {
                due.is("thing(" + thing + ", 7)", x.thing(thing, 7), 0);
            }
            Due.days(x, 3);
            for (int thing = 0; thing < 7; thing++) {
                due.is("DAY 3, thing(" + thing + ", 7)", x.thing(thing, 7), 0);
            }
        });
        due.sentence("Terms, WATCH: of like ones the least", () -> {
            LeastMissed x = Due.house("u15,t15,t15;99");
            due.is("a CUP: all are alike", x.thing(0, 7), 0);
            x.see(1, 0, 5);
            due.is("one LOOKS: all are alike", x.thing(1, 7), 0);
            due.is("SINCE 20: all are alike", Due.days(x, 20).thing(2, 7), 0);
            x.forget();
            due.is("TAKEN: all are alike", Due.takes(x, 1).thing(1, 7), 0);
        });
        due.sentence("Terms, WATCH: none, if there are none", () -> {
            LeastMissed x = Due.house("t15,t15;99");
            x.see(0, 9, 20);
            due.is("thing(0, 6)", x.thing(0, 6), 0);
            due.is("thing(0, 7)", x.thing(0, 7), NONE);
            due.is("thing(1, 7)", x.thing(1, 7), 0);
            x.forget();
            due.is("thing(0, 7) then", x.thing(0, 7), 0);
        });
    }

    private static void see(Due due) {
        due.sentence("Promise 19: how much is", () -> {
            LeastMissed x = Due.house("t15,t15;99");
            for (int seen = 1; seen <= 6; seen++) {
                due.is("see " + seen, x.see(seen % 2, 0, 5), seen);
                due.is("count(8)", x.count(8), seen);
            }
        });
        due.sentence("Promise 19: FULL, 6 at most", () -> {
            LeastMissed x = Due.house("t15,t15;99");
            for (int seen = 1; seen < 6; seen++) {
                x.see(0, 0, 5);
            }
            due.is("the 6th", x.see(1, 9, 2), 6);
            due.refused("the 7th", x, FULL, () -> x.see(0, 0, 5));
            due.refused("the 7th, of the other", x, FULL, () -> x.see(1, 9, 20));
            due.is("thing(0, 6)", x.thing(0, 6), 1 << 5);
            due.is("thing(1, 6)", x.thing(1, 6), 1 << 11);
        });
        due.sentence("Promise 19: of one that is TAKEN, too", () -> {
            LeastMissed x = Due.takes(Due.house("t15,t15;99"), 2);
            due.is("see(0, 0, 5)", x.see(0, 0, 5), 1);
            due.is("see(1, 9, 20)", x.see(1, 9, 20), 2);
        });
    }

    private static void seeRefused(Due due) {
        due.sentence("Promise 19: UNKNOWN: thing", () -> {
            LeastMissed none = new LeastMissed();
            LeastMissed two = Due.house("t15,t15;99");
            LeastMissed seven = Due.house(SEVEN);
            due.refused("no HOUSE, see(0, 0, 0)", none, UNKNOWN, () -> none.see(0, 0, 0));
            due.outside("of two, see(#, 0, 0)", two, 0, 1, UNKNOWN, n -> two.see(n, 0, 0));
            due.outside("of seven, see(#, 9, 20)", seven, 0, 6, UNKNOWN, n -> seven.see(n, 9, 20));
            due.is("of seven, see(6, 9, 20)", seven.see(6, 9, 20), 1);
        });
        due.sentence("Promise 19: OUTSIDE: day (0 to 9)", () -> {
            LeastMissed x = Due.house("t15,t15;99");
            due.outside("see(0, #, 0)", x, 0, 9, OUTSIDE, n -> x.see(0, n, 0));
            due.outside("see(1, #, 20)", x, 0, 9, OUTSIDE, n -> x.see(1, n, 20));
            due.is("see(0, 0, 5)", x.see(0, 0, 5), 1);
            due.is("see(0, 9, 5)", x.see(0, 9, 5), 2);
        });
        due.sentence("Promise 19: OUTSIDE: missed (0 to 20)", () -> {
            LeastMissed x = Due.house("t15,t15;99");
            due.outside("see(0, 0, #)", x, 0, 20, OUTSIDE, n -> x.see(0, 0, n));
            due.outside("see(1, 9, #)", x, 0, 20, OUTSIDE, n -> x.see(1, 9, n));
            due.is("see(0, 0, 0)", x.see(0, 0, 0), 1);
            due.is("see(0, 0, 20)", x.see(0, 0, 20), 2);
        });
    }

    private static void seeOrder(Due due) {
        due.sentence("Promise 19: UNKNOWN ahead of OUTSIDE", () -> {
            LeastMissed none = new LeastMissed();
            LeastMissed x = Due.house("t15,t15;99");
            due.outside("no HOUSE, see(0, #, 0)", none, 0, 9, UNKNOWN, n -> none.see(0, n, 0));
            due.outside("see(2, #, 0)", x, 0, 9, UNKNOWN, n -> x.see(2, n, 0));
            due.outside("see(-1, 0, #)", x, 0, 20, UNKNOWN, n -> x.see(-1, 0, n));
        });
        due.sentence("Promise 19: UNKNOWN ahead of FULL", () -> {
            LeastMissed x = sixSeen();
            due.outside("see(#, 0, 0)", x, 0, 1, UNKNOWN, n -> x.see(n, 0, 0));
        });
        due.sentence("Promise 19: OUTSIDE ahead of FULL", () -> {
            LeastMissed x = sixSeen();
            due.outside("see(0, #, 0)", x, 0, 9, OUTSIDE, n -> x.see(0, n, 0));
            due.outside("see(0, 0, #)", x, 0, 20, OUTSIDE, n -> x.see(0, 0, n));
        });
    }

    private static LeastMissed sixSeen() {
        LeastMissed x = Due.house("t15,t15;99");
        for (int seen = 0; seen < 6; seen++) {
            x.see(0, 0, 5);
        }
        return x;
    }

    private static void forget(Due due) {
        due.sentence("Promise 20: nothing was", () -> {
            LeastMissed none = new LeastMissed();
            due.onlyTells("no HOUSE, forget()", none, 0, none::forget);
            LeastMissed x = Due.house("t15,t15;99");
            due.onlyTells("forget()", x, 0, x::forget);
        });
        due.sentence("Promise 20: nothing is SEEN any more", () -> {
            LeastMissed x = sixSeen();
            due.is("forget()", x.forget(), 6);
            due.is("count(8)", x.count(8), 0);
            due.is("thing(0, 6)", x.thing(0, 6), ALL);
            due.is("forget() again", x.forget(), 0);
            due.is("see(0, 0, 4)", x.see(0, 0, 4), 1);
            due.is("thing(0, 6), of that alone", x.thing(0, 6), 1 << 4);
            due.is("forget() of one", x.forget(), 1);
        });
    }

    /** The SEED behind which the next SEED is just this one. */
    private static int seedAhead(int next) {
        BigInteger modulus = BigInteger.ONE.shiftLeft(31);
        BigInteger inverse = BigInteger.valueOf(1103515245).modInverse(modulus);
        return BigInteger.valueOf(next - 12345L).multiply(inverse).mod(modulus).intValue();
    }

    /** Which of two THINGS is TOUCHED by the first DRAW from a SEED; 2: none. */
    private static int drawnOfTwo(int seed) {
        if (Due.days(Due.house("u11,u91;99"), 4).months(1, seed, 0) == 9) {
            return 0;
        }
        return Due.days(Due.house("u12,u91;99"), 4).months(1, seed, 0) == 1 ? 1 : 2;
    }

    private static void monthsDraw(Due due) {
        due.sentence("Terms, MONTHS: a DRAW of how many THINGS there are, and 1", () -> {
            int[] drawn = {0, 1, 2, 0, 1, 2, 0};
            for (int part = 0; part < drawn.length; part++) {
                due.is("of two, " + part, drawnOfTwo(seedAhead(65536 * part)), drawn[part]);
            }
            LeastMissed six = Due.days(Due.house("u12,u12,u12,u12,u12,u12,u91;99"), 4);
            due.is("of seven, 6", six.months(1, seedAhead(65536 * 6), 0), 1);
            due.is("of seven, 14", six.months(1, seedAhead(65536 * 14), 0), 1);
            LeastMissed first = Due.days(Due.house("u11,u91,u92,u92,u92,u92,u92;99"), 4);
            due.is("of seven, 0", first.months(1, seedAhead(0), 0), 9);
            due.is("of seven, 8", first.months(1, seedAhead(65536 * 8), 0), 9);
        });
        due.sentence("Terms, MONTHS: the last number: none", () -> {
            due.is("of two, 2", drawnOfTwo(seedAhead(65536 * 2)), 2);
            for (int thing = 0; thing < 7; thing++) {
                // If this one were TOUCHED, another, of WORTH 1, would be TAKEN for it.
                StringBuilder text = new StringBuilder();
                for (int other = 0; other < 7; other++) {
                    text.append(other == thing ? ",u91" : thing == 0 && other == 1 ? ",u11" : ",u12");
                }
                LeastMissed x = Due.days(Due.house(text.substring(1) + ";99"), 4);
                due.is("of seven, 7, not " + thing, x.months(1, seedAhead(65536 * 7), 0), 9);
            }
        });
        due.sentence("Terms, MONTHS: LOOKS 20 at most in it, too", () -> {
            LeastMissed x = Due.house("u19,u19;99");
            Due.touches(Due.touches(x, 0, 11), 1, 11);
            x.change(1, 2, 9);
            due.is("0 TOUCHED", Due.days(x, 4).months(1, seedAhead(0), 0), 1);
        });
    }

    private static void monthsTake(Due due) {
        due.sentence("Terms, MONTHS: if 5 divides the DAY", () -> {
            LeastMissed x = Due.house("u21,u31;99");
            for (int day = 0; day <= 10; day++) {
                for (int days = 1; days <= 7; days++) {
                    int times = (day + days) / 5 - day / 5;
                    int taken = 99 - x.months(days, 7, 1);
                    due.is("from DAY " + day + ", " + days, taken == 0 ? 0 : taken < 5 ? 1 : 2, times);
                }
                x.day();
            }
        });
        due.sentence("Terms, MONTHS: TOUCHED, then the DAY goes by, then he TAKES", () -> {
            LeastMissed x = Due.days(Due.house("u21,s70;99"), 4);
            Due.touches(x, 1, 4);
            due.is("a SMELL of 5 less 4", x.months(1, seedAhead(65536), 0), 2);
            LeastMissed y = Due.days(Due.house("u22,s70;99"), 4);
            Due.touches(y, 1, 4);
            due.is("is less than a CUP of 2", y.months(1, seedAhead(65536), 0), 7);
        });
        due.sentence("Terms, MONTHS: how much WORTH is TAKEN by it", () -> {
            LeastMissed x = Due.house("t90,t25,t35;99");
            due.is("of none", x.months(4, 0, 0), 0);
            due.is("of one", x.months(5, 0, 0), 9);
            due.is("of all", x.months(60, 0, 0), 14);
            x.take();
            due.is("not ahead of it", x.months(60, 0, 0), 5);
            due.is("when all is TAKEN", Due.takes(x, 2).months(60, 0, 0), 0);
            due.is("more than the DEBT was", Due.house("t90,t25;01").months(60, 0, 0), 9);
        });
        due.sentence("Terms, MONTHS: how much DEBT there is in the end", () -> {
            due.is("of none TAKEN", Due.house("t90,t25;99").months(4, 0, 1), 99);
            due.is("of all", Due.house("t90,t25;99").months(60, 0, 1), 88);
            due.is("just 0", Due.house("t90,t25;09").months(60, 0, 1), 0);
            due.is("0 at least", Due.house("t90,t25;08").months(60, 0, 1), 0);
            due.is("of 0", Due.house("t90,t25;00").months(60, 0, 1), 0);
        });
        due.sentence("Terms, MONTHS: he TAKES nothing, if the DEBT is 0", () -> {
            due.is("from the first", Due.house("t90,t25;00").months(60, 0, 0), 0);
            due.is("behind the first", Due.house("t90,t25;09").months(60, 0, 0), 9);
            due.is("not if it is 1", Due.house("t90,t25;10").months(60, 0, 0), 11);
        });
        due.sentence("Terms, MONTHS: as they would be", () -> {
            LeastMissed x = Due.days(Due.house(SEVEN), 3);
            for (int what = 0; what <= 2; what++) {
                int asked = what;
                due.onlyTells("months(60, 7, " + what + ")", x, () -> x.months(60, 7, asked));
            }
        });
    }

    private static void draws(Due due) {
        due.sentence("Terms, DRAWS: its rest by 2 to the 31", () -> {
            LeastMissed x = Due.house("t15,t15;99");
            due.is("from 0", x.months(1, 0, 2), 12345);
            due.is("from 1", x.months(1, 1, 2), 1103527590);
            due.is("from 2, above it", x.months(1, 2, 2), 59559187);
            due.is("from the greatest int", x.months(1, MOST, 2), 1043980748);
            for (int next : new int[] {0, 1, MOST - 1, MOST}) {
                due.is("to " + next, x.months(1, seedAhead(next), 2), next);
            }
            due.is("twice to 0", x.months(2, seedAhead(seedAhead(0)), 2), 0);
        });
        due.sentence("Terms, DRAWS: by 65536, rounded down", () -> {
            due.is("0", drawnOfTwo(seedAhead(0)), 0);
            due.is("1", drawnOfTwo(seedAhead(1)), 0);
            due.is("65534", drawnOfTwo(seedAhead(65534)), 0);
            due.is("65535", drawnOfTwo(seedAhead(65535)), 0);
            due.is("65536", drawnOfTwo(seedAhead(65536)), 1);
            due.is("131071", drawnOfTwo(seedAhead(131071)), 1);
            due.is("131072", drawnOfTwo(seedAhead(131072)), 2);
            due.is("2147418111", drawnOfTwo(seedAhead(2147418111)), 0);
            due.is("2147418112", drawnOfTwo(seedAhead(2147418112)), 1);
            due.is("2147483647", drawnOfTwo(seedAhead(MOST)), 1);
        });
        due.sentence("Terms, DRAWS: the next SEED each time", () -> {
            LeastMissed x = Due.house("t15,t15;99");
            int seed = 851;
            for (int days = 1; days <= 60; days++) {
                seed = (int) ((1103515245L * seed + 12345) & MOST);
                due.is("months(" + days + ", 851, 2)", x.months(days, 851, 2), seed);
            }
        });
    }

    private static void months(Due due) {
        due.sentence("Promise 21: 0 how much WORTH, 1 how much DEBT, 2 the SEED then", () -> {
            LeastMissed x = Due.house("t90,t25;99");
            due.is("months(5, 0, 0)", x.months(5, 0, 0), 9);
            due.is("months(5, 0, 1)", x.months(5, 0, 1), 90);
            due.is("months(5, 0, 2)", x.months(5, 0, 2), 229283573);
        });
        due.sentence("Promise 21: OUTSIDE: days (1 to 60)", () -> {
            LeastMissed x = Due.house("t11,t11,t11,t11,t11,t11,t11;99");
            for (int what = 0; what <= 2; what++) {
                int asked = what;
                due.outside("months(#, 0, " + what + ")", x, 1, 60, OUTSIDE, n -> x.months(n, 0, asked));
            }
            due.is("months(1, 0, 0)", x.months(1, 0, 0), 0);
            due.is("months(60, 0, 0)", x.months(60, 0, 0), 7);
        });
        due.sentence("Promise 21: OUTSIDE: seed (0 at least)", () -> {
            LeastMissed x = Due.house("t90,t25;99");
            due.refused("months(1, -1, 0)", x, OUTSIDE, () -> x.months(1, -1, 0));
            due.refused("months(60, -1, 2)", x, OUTSIDE, () -> x.months(60, -1, 2));
            due.refused("months(1, least, 0)", x, OUTSIDE, () -> x.months(1, Integer.MIN_VALUE, 0));
            due.is("months(1, 0, 1)", x.months(1, 0, 1), 99);
            due.is("months(1, greatest, 1)", x.months(1, MOST, 1), 99);
        });
        due.sentence("Promise 21: OUTSIDE: what", () -> {
            LeastMissed x = Due.house("t90,t25;99");
            due.outside("months(1, 0, #)", x, 0, 2, OUTSIDE, n -> x.months(1, 0, n));
            due.outside("months(60, 9, #)", x, 0, 2, OUTSIDE, n -> x.months(60, 9, n));
        });
    }

    private static void monthsRefused(Due due) {
        due.sentence("Promise 21: STATE: no HOUSE", () -> {
            LeastMissed none = new LeastMissed();
            for (int what = 0; what <= 2; what++) {
                int asked = what;
                due.refused("months(1, 0, " + what + ")", none, STATE, () -> none.months(1, 0, asked));
            }
        });
        due.sentence("Promise 21: OUTSIDE ahead of STATE", () -> {
            LeastMissed none = new LeastMissed();
            due.outside("no HOUSE, months(#, 0, 0)", none, 1, 60, OUTSIDE, n -> none.months(n, 0, 0));
            due.outside("no HOUSE, months(1, 0, #)", none, 0, 2, OUTSIDE, n -> none.months(1, 0, n));
            due.refused("no HOUSE, months(1, -1, 0)", none, OUTSIDE, () -> none.months(1, -1, 0));
        });
    }
}
