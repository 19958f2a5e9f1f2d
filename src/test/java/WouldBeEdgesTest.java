/** NEXT, SIEGE, MAKE UP, ODDS and SALE, and promises 14 to 18: each boundary by a test of its own. */
public final class WouldBeEdgesTest {
    private static final int NONE = -1, UNKNOWN = -101, OUTSIDE = -102, STATE = -103;
    private static final int LEAST = Integer.MIN_VALUE, MOST = Integer.MAX_VALUE;
    private static final String SEVEN = "t10,c29,u38,p47,s56,t65,c94;83";

    public static void main(String[] args) {
        Due due = new Due();
        tell(due);
        due.end();
    }

    static void tell(Due due) {
        next(due);
        nextRefused(due);
        siegeDays(due);
        siegeBest(due);
        siegeLike(due);
        siegeTaken(due);
        siegeRefused(due);
        makeUp(due);
        makeUpLike(due);
        makeUpRefused(due);
        odds(due);
        oddsLeft(due);
        oddsRefused(due);
        oddsOrder(due);
        sale(due);
        saleLike(due);
        saleRefused(due);
    }

    private static void next(Due due) {
        due.sentence("Terms, NEXT: behind so many DAYS (0 to 20)", () -> {
            LeastMissed x = Due.touches(Due.house("u11,t19;99"), 1, 11);
            due.is("next(0)", x.next(0), 0);
            due.is("next(19)", x.next(19), 0);
            due.is("next(20)", x.next(20), 1);
            LeastMissed y = Due.house("t13,u12;99");
            due.is("next(0) by what is now", y.next(0), 1);
            due.is("next(1)", y.next(1), 0);
            due.is("next(20) from SINCE 20", Due.days(y, 20).next(20), 0);
        });
        due.sentence("Terms, NEXT: if nothing is done", () -> {
            LeastMissed x = Due.days(Due.house(SEVEN), 2);
            due.onlyTells("next(0)", x, 0, () -> x.next(0));
            due.onlyTells("next(20)", x, 0, () -> x.next(20));
            due.is("take()", x.take(), 0);
            due.onlyTells("next(0) of those that are left", x, 4, () -> x.next(0));
        });
        due.sentence("Promise 14: NONE, if the DEBT is 0", () -> {
            LeastMissed x = Due.house("t10,t10;00");
            due.is("next(0)", x.next(0), NONE);
            due.is("next(20)", x.next(20), NONE);
            x.borrow(1);
            due.is("next(0) of 1", x.next(0), 0);
        });
        due.sentence("Promise 14: NONE, if all is TAKEN", () -> {
            LeastMissed x = Due.takes(Due.house("t10,t10;99"), 1);
            due.is("next(0) of one", x.next(0), 1);
            x.take();
            due.is("next(0)", x.next(0), NONE);
            due.is("next(20)", x.next(20), NONE);
        });
    }

    private static void nextRefused(Due due) {
        due.sentence("Promise 14: OUTSIDE: days (0 to 20)", () -> {
            LeastMissed x = Due.house(SEVEN);
            due.outside("next(#)", x, 0, 20, OUTSIDE, x::next);
            due.is("next(0)", x.next(0), 0);
            due.is("next(20)", x.next(20), 0);
        });
        due.sentence("Promise 14: STATE: no HOUSE", () -> {
            LeastMissed none = new LeastMissed();
            due.refused("next(0)", none, STATE, () -> none.next(0));
            due.refused("next(20)", none, STATE, () -> none.next(20));
        });
        due.sentence("Promise 14: OUTSIDE ahead of STATE", () -> {
            LeastMissed none = new LeastMissed();
            due.outside("no HOUSE, next(#)", none, 0, 20, OUTSIDE, none::next);
        });
    }

    /** WORTH, MISSED, and which are TOUCHED. */
    private static void sieged(Due due, LeastMissed x, int days, int worth, int missed, int... touched) {
        due.is("siege(" + days + ", 0)", x.siege(days, 0), worth);
        due.is("siege(" + days + ", 1)", x.siege(days, 1), missed);
        for (int i = 0; i < 4; i++) {
            due.is("siege(" + days + ", " + (10 + i) + ")", x.siege(days, 10 + i), i < days ? touched[i] : NONE);
        }
    }

    private static void siegeDays(Due due) {
        due.sentence("Terms, SIEGE: for so many DAYS (1 to 4)", () -> {
            LeastMissed x = Due.house("u11,u21,u31,u41,u51,u61,u71;99");
            sieged(due, x, 1, 1, 7, 1);
            sieged(due, x, 2, 3, 7, 2, 2);
            sieged(due, x, 3, 6, 7, 3, 3, 3);
            sieged(due, x, 4, 10, 7, 4, 4, 4, 4);
        });
        due.sentence("Terms, SIEGE: TOUCHED, then the DAY goes by, then he TAKES", () -> {
            sieged(due, Due.house("s94,u11;50"), 1, 9, 2, 1);
            sieged(due, Due.house("s95,u11;50"), 1, 1, 2, 0);
        });
        due.sentence("Terms, SIEGE: on each DAY", () -> {
            sieged(due, Due.house("t11,u90;50"), 1, 1, 1, 1);
            // SINCE is 2 for what is TOUCHED on the first DAY, 1 for what is TOUCHED on the second.
            sieged(due, Due.house("t19,c19;00"), 2, 0, 16, 0, 1);
        });
        due.sentence("Terms, SIEGE: it changes nothing", () -> {
            LeastMissed x = Due.days(Due.takes(Due.house(SEVEN), 1), 2);
            for (int what : new int[] {0, 1, 10, 11, 12, 13}) {
                due.onlyTells("siege(4, " + what + ")", x, () -> x.siege(4, what));
            }
        });
    }

    private static void siegeBest(Due due) {
        due.sentence("Terms, SIEGE: so that least WORTH is TAKEN by it", () -> {
            sieged(due, Due.house("u15,u94;50"), 1, 1, 5, 1);
            LeastMissed x = Due.takes(Due.house("u90,u15,u94;50"), 1);
            sieged(due, x, 1, 1, 5, 2);
        });
        due.sentence("Terms, SIEGE: least WORTH together", () -> {
            // The lesser one first would leave a DEBT of 1, and lose both.
            sieged(due, Due.house("u51,u41;05"), 2, 5, 3, 1, 1);
            sieged(due, Due.house("u51,u41;05"), 1, 4, 2, 0);
        });
        due.sentence("Terms, SIEGE: of these most of what is left is MISSED", () -> {
            sieged(due, Due.house("p18,c18;00"), 1, 0, 10, 1);
            sieged(due, Due.house("u10,p14,t15;09"), 1, 1, 6, 2);
        });
        due.sentence("Terms, SIEGE: of what is left, in the end", () -> {
            sieged(due, Due.house("t15,u10;00"), 1, 0, 5, 0);
            // What he TAKES is MISSED by 8 and counts no more.
            sieged(due, Due.house("t19,u19;09"), 1, 1, 10, 1);
            LeastMissed x = Due.takes(Due.house("u10,u15;09"), 1);
            sieged(due, x, 1, 1, 0, 1);
        });
    }

    private static void siegeLike(Due due) {
        due.sentence("Terms, SIEGE: of like ones the first by numbers", () -> {
            sieged(due, Due.house("u11,u11;00"), 1, 0, 3, 0);
            sieged(due, Due.house("p10,u11,u11;00"), 1, 0, 3, 1);
            sieged(due, Due.house("u11,u11;00"), 4, 0, 6, 0, 0, 0, 0);
        });
        due.sentence("Terms, SIEGE: of like ones the first DAY first", () -> {
            LeastMissed x = Due.touches(Due.touches(Due.house("u19,u19;00"), 0, 10), 1, 10);
            sieged(due, x, 2, 0, 40, 0, 1);
            sieged(due, x, 3, 0, 40, 0, 0, 1);
            sieged(due, x, 4, 0, 40, 0, 0, 0, 1);
        });
        due.sentence("Terms, SIEGE: LOOKS 20 at most in it, too", () -> {
            LeastMissed x = Due.touches(Due.house("u19,u10;00"), 0, 11);
            sieged(due, x, 1, 0, 21, 1);
            Due.touches(x, 1, 20);
            sieged(due, x, 1, 0, 40, 0);
        });
    }

    private static void siegeTaken(Due due) {
        due.sentence("Terms, SIEGE: one THING that is not TAKEN", () -> {
            LeastMissed x = Due.takes(Due.house("u10,u15,u19;99"), 1);
            sieged(due, x, 1, 1, 10, 2);
            sieged(due, Due.takes(Due.house("u10,u15;99"), 1), 1, 1, 0, 1);
        });
        due.sentence("Terms, SIEGE: 7: none", () -> {
            sieged(due, Due.takes(Due.house("u10,u15;99"), 1), 2, 1, 0, 1, 7);
            sieged(due, Due.takes(Due.house("u10,u15;99"), 2), 1, 0, 0, 7);
            sieged(due, Due.house("t10,t10;99"), 4, 2, 0, 0, 1, 7, 7);
            sieged(due, Due.takes(Due.house(SEVEN), 7), 4, 0, 0, 7, 7, 7, 7);
        });
        due.sentence("Terms, SIEGE: he TAKES nothing, if the DEBT is 0", () -> {
            sieged(due, Due.house("u11,u11;00"), 2, 0, 4, 0, 0);
            sieged(due, Due.house("u11,u11;01"), 2, 1, 3, 0, 0);
            sieged(due, Due.house("u11,u11;02"), 2, 2, 0, 0, 0);
        });
        due.sentence("Promise 15: NONE: there are not so many", () -> {
            LeastMissed x = Due.house(SEVEN);
            for (int days = 1; days <= 4; days++) {
                for (int i = 0; i < 4; i++) {
                    int touched = x.siege(days, 10 + i);
                    due.is("siege(" + days + ", " + (10 + i) + ") is NONE", touched == NONE ? 1 : 0, i < days ? 0 : 1);
                }
            }
        });
    }

    private static void siegeRefused(Due due) {
        due.sentence("Promise 15: OUTSIDE: days (1 to 4)", () -> {
            LeastMissed x = Due.house(SEVEN);
            for (int what : new int[] {0, 1, 10, 13}) {
                due.outside("siege(#, " + what + ")", x, 1, 4, OUTSIDE, n -> x.siege(n, what));
            }
            due.is("siege(1, 0)", x.siege(1, 0), 1);
            due.is("siege(4, 0)", x.siege(4, 0) > 0 ? 1 : 0, 1);
        });
        due.sentence("Promise 15: OUTSIDE: what", () -> {
            LeastMissed x = Due.house(SEVEN);
            for (int days = 1; days <= 4; days++) {
                for (int what : new int[] {LEAST, -1, 2, 9, 14, MOST}) {
                    int many = days;
                    due.refused("siege(" + days + ", " + what + ")", x, OUTSIDE, () -> x.siege(many, what));
                }
                for (int what : new int[] {0, 1, 10, 11, 12, 13}) {
                    due.is("siege(" + days + ", " + what + ") is told", x.siege(days, what) >= NONE ? 1 : 0, 1);
                }
            }
        });
        due.sentence("Promise 15: STATE: no HOUSE", () -> {
            LeastMissed none = new LeastMissed();
            for (int what : new int[] {0, 1, 10, 11, 12, 13}) {
                due.refused("siege(1, " + what + ")", none, STATE, () -> none.siege(1, what));
                due.refused("siege(4, " + what + ")", none, STATE, () -> none.siege(4, what));
            }
        });
        due.sentence("Promise 15: OUTSIDE ahead of STATE", () -> {
            LeastMissed none = new LeastMissed();
            due.outside("no HOUSE, siege(#, 0)", none, 1, 4, OUTSIDE, n -> none.siege(n, 0));
            due.outside("no HOUSE, siege(1, #)", none, 0, 1, OUTSIDE, n -> none.siege(1, n));
            due.outside("no HOUSE, siege(4, #)", none, 10, 13, OUTSIDE, n -> none.siege(4, n));
        });
    }

    private static void madeUp(Due due, LeastMissed x, int missed, int worth, int which) {
        due.is("makeUp(0)", x.makeUp(0), missed);
        due.is("makeUp(1)", x.makeUp(1), worth);
        due.is("makeUp(2)", x.makeUp(2), which);
    }

    private static void makeUp(Due due) {
        due.sentence("Terms, MAKE UP: as much as the DEBT, or more", () -> {
            madeUp(due, Due.house("t35,t49;02"), 5, 3, 1);
            madeUp(due, Due.house("t35,t49;03"), 5, 3, 1);
            madeUp(due, Due.house("t35,t49;04"), 9, 4, 2);
            madeUp(due, Due.house("t35,t49;05"), 14, 7, 3);
            madeUp(due, Due.house("t35,t49;07"), 14, 7, 3);
        });
        due.sentence("Terms, MAKE UP: nothing, if the DEBT is 0", () -> {
            madeUp(due, Due.house("t35,t49;00"), 0, 0, 0);
            madeUp(due, Due.house("t30,t40;00"), 0, 0, 0);
            madeUp(due, Due.house("t35,t49;01"), 5, 3, 1);
            LeastMissed x = Due.takes(Due.house("t90,t90;09"), 1);
            madeUp(due, x, 0, 0, 0);
        });
        due.sentence("Terms, MAKE UP: none, if all are too little", () -> {
            madeUp(due, Due.house("t35,t49;08"), NONE, NONE, NONE);
            madeUp(due, Due.house("t90,t90,t90,t90,t90,t90,t91;63"), 1, 63, 127);
            madeUp(due, Due.house("t90,t90,t90,t90,t90,t90,t90;64"), NONE, NONE, NONE);
            LeastMissed x = Due.takes(Due.house("t10,t15;02"), 2);
            x.borrow(1);
            madeUp(due, x, NONE, NONE, NONE);
        });
        due.sentence("Terms, MAKE UP: THINGS that are not TAKEN", () -> {
            LeastMissed x = Due.takes(Due.house("t90,t15;15"), 1);
            madeUp(due, x, NONE, NONE, NONE);
            LeastMissed y = Due.takes(Due.house("t10,t35,t49;04"), 1);
            madeUp(due, y, 5, 3, 2);
        });
        due.sentence("Terms, MAKE UP: so that least is MISSED, together", () -> {
            madeUp(due, Due.house("t99,u31,u31,u31;09"), 3, 9, 14);
            madeUp(due, Due.house("t92,u31,u31,u31;09"), 2, 9, 1);
            madeUp(due, Due.days(Due.house("t48,u46;04"), 3), 5, 4, 1);
        });
        due.sentence("Terms, MAKE UP: it changes nothing", () -> {
            LeastMissed x = Due.days(Due.takes(Due.house("t10,t35,t49;04"), 1), 1);
            for (int what = 0; what <= 2; what++) {
                int asked = what;
                due.onlyTells("makeUp(" + what + ")", x, () -> x.makeUp(asked));
            }
        });
    }

    private static void makeUpLike(Due due) {
        due.sentence("Terms, MAKE UP: of like ones those of least WORTH", () -> {
            madeUp(due, Due.house("t52,t42;04"), 2, 4, 2);
            madeUp(due, Due.house("t30,t20,t10;04"), 0, 4, 5);
            madeUp(due, Due.house("t50,t41,t31;04"), 0, 5, 1);
        });
        due.sentence("Terms, MAKE UP: then the least, as bits", () -> {
            madeUp(due, Due.house("t42,t42;04"), 2, 4, 1);
            madeUp(due, Due.house("t21,t21,t42;04"), 2, 4, 3);
            madeUp(due, Due.house("t11,t21,t21,t31;04"), 2, 4, 6);
        });
    }

    private static void makeUpRefused(Due due) {
        due.sentence("Promise 16: OUTSIDE", () -> {
            LeastMissed x = Due.house("t42,t43;04");
            due.outside("makeUp(#)", x, 0, 2, OUTSIDE, x::makeUp);
            madeUp(due, x, 2, 4, 1);
        });
        due.sentence("Promise 16: STATE: no HOUSE", () -> {
            LeastMissed none = new LeastMissed();
            for (int what = 0; what <= 2; what++) {
                int asked = what;
                due.refused("makeUp(" + what + ")", none, STATE, () -> none.makeUp(asked));
            }
        });
        due.sentence("Promise 16: OUTSIDE ahead of STATE", () -> {
            LeastMissed none = new LeastMissed();
            due.outside("no HOUSE, makeUp(#)", none, 0, 2, OUTSIDE, none::makeUp);
        });
    }

    private static void likely(Due due, LeastMissed x, int thing, int days, int above, int below) {
        due.is("odds(" + thing + ", " + days + ", 0)", x.odds(thing, days, 0), above);
        due.is("odds(" + thing + ", " + days + ", 1)", x.odds(thing, days, 1), below);
    }

    private static void odds(Due due) {
        due.sentence("Terms, ODDS: for so many DAYS (1 to 3)", () -> {
            LeastMissed x = Due.house("u11,u11,u11;05");
            likely(due, x, 0, 1, 2, 3);
            likely(due, x, 1, 1, 1, 3);
            likely(due, x, 2, 1, 0, 1);
            likely(due, x, 0, 3, 14, 27);
            likely(due, x, 1, 3, 7, 27);
            likely(due, x, 2, 3, 2, 9);
        });
        due.sentence("Terms, ODDS: TOUCHES, then the DAY goes by", () -> {
            likely(due, Due.house("s94,u11;50"), 0, 1, 1, 1);
            likely(due, Due.house("s95,u11;50"), 0, 1, 1, 2);
        });
        due.sentence("Terms, ODDS: each way from what is now", () -> {
            LeastMissed x = Due.days(Due.house("t15,u12;05"), 5);
            likely(due, x, 0, 1, 1, 2);
            likely(due, x, 1, 1, 1, 2);
            LeastMissed y = Due.days(Due.house("t15,u12;05"), 20);
            likely(due, y, 0, 1, 1, 2);
            likely(due, Due.house("u11,u11,u11;05"), 0, 1, 2, 3);
        });
        due.sentence("Terms, ODDS: LOOKS 20 at most in it, too", () -> {
            LeastMissed x = Due.touches(Due.touches(Due.house("u19,u19;50"), 0, 11), 1, 10);
            likely(due, x, 0, 1, 1, 2);
            likely(due, x, 1, 1, 1, 2);
            x.touch(1);
            likely(due, x, 0, 3, 1, 1);
        });
        due.sentence("Terms, ODDS: it changes nothing", () -> {
            LeastMissed x = Due.days(Due.takes(Due.house(SEVEN), 1), 1);
            due.onlyTells("odds(4, 3, 0)", x, () -> x.odds(4, 3, 0));
            due.onlyTells("odds(4, 3, 1)", x, () -> x.odds(4, 3, 1));
        });
        due.sentence("Promise 17: in lowest terms", () -> {
            likely(due, Due.house("u11,u11;05"), 0, 2, 3, 4);
            likely(due, Due.house("u11,u11;05"), 0, 3, 1, 2);
            likely(due, Due.house("u11,u11,u19,u19;05"), 0, 1, 3, 4);
            likely(due, Due.house("u10,u19;05"), 0, 3, 1, 1);
        });
        due.sentence("Promise 17: 0 of 1", () -> {
            likely(due, Due.house("u10,u19;05"), 1, 3, 0, 1);
            likely(due, Due.house("u10,u19,u19,u19,u19,u19,u19;05"), 6, 3, 0, 1);
        });
    }

    private static void oddsLeft(Due due) {
        due.sentence("Terms, ODDS: one of those that are not TAKEN, each as likely", () -> {
            LeastMissed x = Due.takes(Due.house("u10,u11,u11;05"), 1);
            likely(due, x, 1, 1, 1, 2);
            likely(due, x, 1, 2, 3, 4);
            likely(due, x, 2, 2, 1, 4);
            x.take();
            likely(due, x, 2, 3, 1, 1);
        });
        due.sentence("Terms, ODDS: he would TAKE nothing, if the DEBT is 0", () -> {
            likely(due, Due.house("u10,u19;00"), 0, 1, 0, 1);
            likely(due, Due.house("u10,u19;00"), 0, 3, 0, 1);
            likely(due, Due.house("u10,u19;01"), 0, 3, 1, 1);
        });
    }

    private static void oddsRefused(Due due) {
        due.sentence("Promise 17: UNKNOWN: thing", () -> {
            LeastMissed none = new LeastMissed();
            LeastMissed two = Due.house("u11,u11;05");
            LeastMissed seven = Due.house(SEVEN);
            due.refused("no HOUSE, odds(0, 1, 0)", none, UNKNOWN, () -> none.odds(0, 1, 0));
            due.outside("of two, odds(#, 1, 0)", two, 0, 1, UNKNOWN, n -> two.odds(n, 1, 0));
            due.outside("of seven, odds(#, 3, 1)", seven, 0, 6, UNKNOWN, n -> seven.odds(n, 3, 1));
            due.is("of two, odds(1, 1, 1)", two.odds(1, 1, 1), 2);
        });
        due.sentence("Promise 17: OUTSIDE: days (1 to 3)", () -> {
            LeastMissed x = Due.house("u11,u11;05");
            due.outside("odds(0, #, 0)", x, 1, 3, OUTSIDE, n -> x.odds(0, n, 0));
            due.outside("odds(1, #, 1)", x, 1, 3, OUTSIDE, n -> x.odds(1, n, 1));
            due.is("odds(1, 1, 1)", x.odds(1, 1, 1), 2);
            due.is("odds(1, 3, 1)", x.odds(1, 3, 1), 2);
        });
        due.sentence("Promise 17: OUTSIDE: what", () -> {
            LeastMissed x = Due.house("u11,u11;05");
            due.outside("odds(0, 1, #)", x, 0, 1, OUTSIDE, n -> x.odds(0, 1, n));
            due.outside("odds(1, 3, #)", x, 0, 1, OUTSIDE, n -> x.odds(1, 3, n));
        });
        due.sentence("Promise 17: STATE: it is TAKEN", () -> {
            LeastMissed x = Due.takes(Due.house("u10,u11;05"), 1);
            due.refused("odds(0, 1, 0)", x, STATE, () -> x.odds(0, 1, 0));
            due.refused("odds(0, 3, 1)", x, STATE, () -> x.odds(0, 3, 1));
            due.is("odds(1, 1, 0)", x.odds(1, 1, 0), 1);
            x.redeem(0);
            due.is("odds(0, 1, 1), redeemed", x.odds(0, 1, 1), 1);
        });
    }

    private static void oddsOrder(Due due) {
        due.sentence("Promise 17: UNKNOWN ahead of OUTSIDE", () -> {
            LeastMissed none = new LeastMissed();
            LeastMissed x = Due.house("u11,u11;05");
            due.outside("no HOUSE, odds(0, #, 0)", none, 1, 3, UNKNOWN, n -> none.odds(0, n, 0));
            due.outside("odds(2, #, 0)", x, 1, 3, UNKNOWN, n -> x.odds(2, n, 0));
            due.outside("odds(-1, 1, #)", x, 0, 1, UNKNOWN, n -> x.odds(-1, 1, n));
        });
        due.sentence("Promise 17: OUTSIDE ahead of STATE", () -> {
            LeastMissed x = Due.takes(Due.house("u10,u11;05"), 1);
            due.outside("odds(0, #, 0), TAKEN", x, 1, 3, OUTSIDE, n -> x.odds(0, n, 0));
            due.outside("odds(0, 1, #), TAKEN", x, 0, 1, OUTSIDE, n -> x.odds(0, 1, n));
        });
    }

    private static void sold(Due due, LeastMissed x, int together, int... buyers) {
        due.is("sale()", x.sale(), together);
        for (int thing = 0; thing < buyers.length; thing++) {
            due.is("thing(" + thing + ", 8)", x.thing(thing, 8), buyers[thing]);
        }
    }

    /** Seven THINGS of which just the one is TAKEN, TOUCHED so often ahead of it. */
    private static LeastMissed oneTaken(int thing, int looks) {
        LeastMissed x = Due.house("u10,u10,u10,u10,u10,u10,u10;99");
        for (int other = 0; other < 7; other++) {
            Due.touches(x, other, other == thing ? looks : 20);
        }
        return Due.takes(x, 1);
    }

    private static void sale(Due due) {
        due.sentence("Terms, SALE: by a buyer of its own number as much as its LOOKS", () -> {
            sold(due, oneTaken(3, 4), 4, NONE, NONE, NONE, 3, NONE, NONE, NONE);
            sold(due, oneTaken(0, 7), 7, 0);
            sold(due, Due.takes(Due.house("u19,u10;99"), 2), 9, 0, 1);
            LeastMissed x = Due.takes(Due.touches(Due.touches(Due.house("u19,u19;99"), 0, 11), 1, 11), 2);
            sold(due, x, 40, 0, 1);
        });
        due.sentence("Terms, SALE: by each other buyer by how far the numbers are apart", () -> {
            sold(due, oneTaken(0, 0), 6, 6);
            sold(due, oneTaken(6, 0), 6, NONE, NONE, NONE, NONE, NONE, NONE, 0);
            sold(due, oneTaken(2, 0), 4, NONE, NONE, 6);
        });
        due.sentence("Terms, SALE: buyers as many as THINGS", () -> {
            sold(due, Due.takes(Due.house("u10,u19;99"), 1), 1, 1, NONE);
            sold(due, Due.takes(Due.house("u10,u19,u19;99"), 1), 2, 2, NONE, NONE);
        });
        due.sentence("Terms, SALE: each buyer has one of those at most", () -> {
            sold(due, Due.takes(Due.house("t10,t10,t10;99"), 2), 3, 2, 0, NONE);
            sold(due, Due.takes(Due.house("t10,t10;99"), 2), 2, 1, 0);
            sold(due, Due.takes(Due.house("t10,t10,t10,t10,t10,t10,t10;99"), 7), 24, 3, 4, 5, 6, 0, 1, 2);
        });
        due.sentence("Terms, SALE: NONE: it is not TAKEN", () -> {
            sold(due, Due.house("t10,t10,t10;99"), 0, NONE, NONE, NONE);
            LeastMissed x = Due.takes(Due.house("t10,t10,t10;99"), 3);
            x.redeem(1);
            sold(due, x, 4, 2, NONE, 0);
            x.redeem(0);
            x.redeem(2);
            sold(due, x, 0, NONE, NONE, NONE);
        });
    }

    private static void saleLike(Due due) {
        due.sentence("Terms, SALE: of like ones the first by numbers", () -> {
            sold(due, oneTaken(3, 0), 3, NONE, NONE, NONE, 0);
            sold(due, oneTaken(3, 3), 3, NONE, NONE, NONE, 0);
            sold(due, oneTaken(0, 6), 6, 0);
            sold(due, oneTaken(6, 6), 6, NONE, NONE, NONE, NONE, NONE, NONE, 0);
        });
        due.sentence("Terms, SALE: of like ones THING 0 first", () -> {
            sold(due, Due.takes(Due.house("t10,t10,t10,t10,t10,t10,t10;99"), 2), 10, 5, 6);
            sold(due, Due.takes(Due.house("t10,t10,t10;99"), 3), 4, 1, 2, 0);
        });
        due.sentence("Terms, SALE: as it is now, whatever it was", () -> {
            LeastMissed x = Due.takes(Due.house("t10,t10,t10,t10,t10,t10,t10;99"), 7);
            sold(due, x, 24, 3, 4, 5, 6, 0, 1, 2);
            sold(due, Due.takes(Due.reads(x, "t10,t10;99"), 2), 2, 1, 0);
            x.redeem(0);
            sold(due, x, 1, NONE, 0);
        });
        due.sentence("Terms, SALE: what is sold stays TAKEN", () -> {
            LeastMissed x = Due.takes(Due.house("t10,t10,t10;99"), 2);
            long before = x.digest();
            x.sale();
            due.is("count(1)", x.count(1), 2);
            due.is("count(2)", x.count(2), 97);
            due.is("digest()", x.digest(), before + 1);
        });
    }

    private static void saleRefused(Due due) {
        due.sentence("Promise 18: STATE: no HOUSE", () -> {
            LeastMissed none = new LeastMissed();
            due.refused("sale()", none, STATE, none::sale);
        });
        due.sentence("Promise 18: STATE: sale() was done 16 times", () -> {
            LeastMissed x = Due.takes(Due.house("t10,t10;99"), 1);
            for (int time = 1; time <= 16; time++) {
                due.is("time " + time, x.sale(), 1);
                due.is("count(11)", x.count(11), time);
            }
            due.refused("time 17", x, STATE, x::sale);
            due.refused("time 18", x, STATE, x::sale);
            due.is("thing(0, 8)", x.thing(0, 8), 1);
        });
        due.sentence("Promise 18: a refused sale() is not done", () -> {
            LeastMissed x = new LeastMissed();
            for (int i = 0; i < 20; i++) {
                x.sale();
            }
            due.is("count(11)", x.count(11), 0);
            Due.reads(x, "t10,t10;99");
            due.is("sale()", x.sale(), 0);
            due.is("count(11) then", x.count(11), 1);
        });
        // A choice: the document does not say that another HOUSE, or an IMAGE, brings new ones.
        due.sentence("Promise 18: the 16 times are the object's", () -> {
            LeastMissed x = Due.takes(Due.house("t10,t10;99"), 1);
            x.image();
            for (int time = 1; time <= 16; time++) {
                x.sale();
            }
            x.restore();
            due.refused("behind restore()", x, STATE, x::sale);
            Due.reads(x, "t10,t10;99");
            due.refused("with another HOUSE", x, STATE, x::sale);
        });
    }
}
