/** The terms of what is done (kinds, since, missed, touched, a day, takes): each boundary by a test of its own. */
public final class TermEdgesTest {
    private static final int NONE = -1, STATE = -103;
    private static final int THING = 0, CLOCK = 1, CUP = 2, PIANO = 3, SMELL = 4;
    private static final String SEVEN = "t19,c19,u19,p19,s19,t19,c19;99";

    public static void main(String[] args) {
        Due due = new Due();
        tell(due);
        due.end();
    }

    static void tell(Due due) {
        newHouse(due);
        kinds(due);
        since(due);
        missed(due);
        missedByHalf(due);
        touched(due);
        day(due);
        takesWhich(due);
        takesWorth(due);
        takesNothing(due);
    }

    private static void newHouse(Due due) {
        due.sentence("Terms, at first: nothing is TAKEN", () -> {
            LeastMissed x = Due.house(SEVEN);
            for (int thing = 0; thing < 7; thing++) {
                due.is("thing(" + thing + ", 5)", x.thing(thing, 5), 0);
            }
            due.is("count(1)", x.count(1), 0);
        });
        due.sentence("Terms, at first: all were looked at just now", () -> {
            LeastMissed x = Due.house(SEVEN);
            for (int thing = 0; thing < 7; thing++) {
                due.is("thing(" + thing + ", 3)", x.thing(thing, 3), 0);
            }
        });
        due.sentence("Terms, at first: it is DAY 0", () -> {
            LeastMissed x = Due.house(SEVEN);
            due.is("count(3)", x.count(3), 0);
            due.is("day()", x.day(), 1);
        });
    }

    private static void kinds(Due due) {
        due.sentence("Terms, KINDS: told by the letter, from 0 to 4", () -> {
            LeastMissed x = Due.house("t11,c11,u11,p11,s11;05");
            for (int kind = 0; kind <= 4; kind++) {
                due.is("thing(" + kind + ", 0)", x.thing(kind, 0), kind);
            }
        });
        due.sentence("Terms, KINDS: all are THINGS", () -> {
            LeastMissed x = Due.house("t11,c11,u11,p11,s11;05");
            for (int thing = 0; thing < 5; thing++) {
                due.is("as(" + thing + ", 0)", x.as(thing, THING), thing);
            }
            for (int kind = 1; kind < 5; kind++) {
                due.is("as(0, " + kind + ")", x.as(0, kind), NONE);
            }
        });
        due.sentence("Terms, KINDS: a SMELL is a CLOCK, too", () -> {
            LeastMissed x = Due.house("c11,s11;05");
            due.is("a SMELL as a CLOCK", x.as(1, CLOCK), 1);
            due.is("a SMELL as a SMELL", x.as(1, SMELL), 1);
            due.is("a CLOCK as a SMELL", x.as(0, SMELL), NONE);
        });
    }

    private static void since(Due due) {
        due.sentence("Terms, SINCE: 20 at most", () -> {
            LeastMissed x = Due.days(Due.house(SEVEN), 19);
            int[] since = {19, 20, 20, 20};
            for (int past = 0; past < since.length; past++) {
                for (int thing = 0; thing < 7; thing++) {
                    due.is("DAY " + x.count(3) + ", thing(" + thing + ", 3)", x.thing(thing, 3), since[past]);
                }
                x.day();
            }
            due.is("DAY 100", Due.days(x, 77).thing(0, 3), 20);
        });
    }

    /** By how much a THING of that KIND is MISSED, with so many LOOKS, on the last DAY of its life till then. */
    private static int missedOf(int kind, int looks, int since) {
        LeastMissed x = Due.house("t10,t10;99");
        x.change(0, kind, 1);
        return Due.days(Due.touches(x, 0, looks), since).thing(0, 4);
    }

    private static void missed(Due due, int kind, int looks, int since, int want) {
        due.is(looks + " LOOKS, SINCE " + since, missedOf(kind, looks, since), want);
    }

    private static void missed(Due due) {
        due.sentence("Terms, MISSED: a THING by LOOKS less SINCE, 0 at least", () -> {
            int[][] rows = {{0, 0, 0}, {0, 1, 0}, {1, 0, 1}, {1, 1, 0}, {1, 2, 0}, {9, 8, 1}, {9, 9, 0}, {9, 10, 0},
                {20, 0, 20}, {20, 19, 1}, {20, 20, 0}, {20, 21, 0}, {0, 20, 0}};
            for (int[] row : rows) {
                missed(due, THING, row[0], row[1], row[2]);
            }
        });
        due.sentence("Terms, MISSED: a CLOCK by LOOKS less twice SINCE, 0 at least", () -> {
            int[][] rows = {{0, 0, 0}, {0, 1, 0}, {1, 0, 1}, {1, 1, 0}, {2, 1, 0}, {3, 1, 1}, {8, 4, 0}, {8, 5, 0},
                {9, 4, 1}, {9, 5, 0}, {20, 0, 20}, {20, 9, 2}, {20, 10, 0}, {20, 11, 0}, {20, 21, 0}};
            for (int[] row : rows) {
                missed(due, CLOCK, row[0], row[1], row[2]);
            }
        });
        due.sentence("Terms, MISSED: a CUP by LOOKS, whatever SINCE", () -> {
            int[][] rows = {{0, 0, 0}, {0, 1, 0}, {0, 20, 0}, {1, 0, 1}, {1, 1, 1}, {1, 20, 1}, {9, 1, 9}, {9, 19, 9},
                {9, 20, 9}, {9, 21, 9}, {20, 0, 20}, {20, 20, 20}, {20, 21, 20}};
            for (int[] row : rows) {
                missed(due, CUP, row[0], row[1], row[2]);
            }
        });
        due.sentence("Terms, MISSED: a SMELL by LOOKS less four times SINCE, 0 at least", () -> {
            int[][] rows = {{0, 0, 0}, {0, 1, 0}, {1, 0, 1}, {3, 1, 0}, {4, 1, 0}, {5, 1, 1}, {8, 2, 0}, {8, 3, 0},
                {9, 2, 1}, {9, 3, 0}, {20, 0, 20}, {20, 4, 4}, {20, 5, 0}, {20, 6, 0}, {20, 21, 0}};
            for (int[] row : rows) {
                missed(due, SMELL, row[0], row[1], row[2]);
            }
        });
    }

    private static void missedByHalf(Due due) {
        due.sentence("Terms, MISSED: a PIANO by half of LOOKS less SINCE, 0 at least", () -> {
            int[][] rows = {{0, 0, 0}, {0, 1, 0}, {2, 0, 1}, {2, 1, 0}, {2, 2, 0}, {8, 3, 1}, {8, 4, 0}, {8, 5, 0},
                {20, 0, 10}, {20, 9, 1}, {20, 10, 0}, {20, 11, 0}, {20, 21, 0}};
            for (int[] row : rows) {
                missed(due, PIANO, row[0], row[1], row[2]);
            }
        });
        due.sentence("Terms, MISSED: a PIANO by half, rounded down", () -> {
            int[][] rows = {{1, 0, 0}, {3, 0, 1}, {9, 0, 4}, {9, 3, 1}, {9, 4, 0}, {19, 0, 9}, {19, 8, 1}, {19, 9, 0}};
            for (int[] row : rows) {
                missed(due, PIANO, row[0], row[1], row[2]);
            }
        });
        due.sentence("Terms, MISSED: 0 at least, so that these are like ones", () -> {
            for (int kind = 0; kind <= 4; kind++) {
                // What is TAKEN does not wait: it comes back with a lesser SINCE than the other has.
                LeastMissed x = Due.days(Due.takes(Due.house("t10,t10;99"), 1), 3);
                x.redeem(0);
                x.change(0, kind, 1);
                x.change(1, kind, 1);
                due.is("next(0) of KIND " + kind, x.next(0), 0);
                due.is("take() of KIND " + kind, x.take(), 0);
            }
        });
    }

    private static void touched(Due due) {
        due.sentence("Terms, TOUCHED: 1 more of LOOKS", () -> {
            LeastMissed x = Due.house("u10,u19;99");
            x.touch(0);
            due.is("from 0", x.thing(0, 2), 1);
            x.touch(1);
            due.is("from 9", x.thing(1, 2), 10);
            due.is("the other", x.thing(0, 2), 1);
        });
        due.sentence("Terms, TOUCHED: LOOKS 20 at most", () -> {
            LeastMissed x = Due.touches(Due.house("u19,t19;99"), 0, 10);
            due.is("19", x.thing(0, 2), 19);
            x.touch(0);
            due.is("20", x.thing(0, 2), 20);
            x.touch(0);
            due.is("20, TOUCHED", x.thing(0, 2), 20);
            due.is("20, by how much MISSED", x.touch(0), 20);
            due.is("20, TOUCHED often", Due.touches(x, 0, 30).thing(0, 2), 20);
        });
        due.sentence("Terms, TOUCHED: SINCE is 0", () -> {
            for (int since : new int[] {0, 1, 19, 20, 21}) {
                LeastMissed x = Due.days(Due.house("t19,u15;99"), since);
                x.touch(0);
                due.is("SINCE " + since, x.thing(0, 3), 0);
                due.is("the other", x.thing(1, 3), Math.min(20, since));
            }
            LeastMissed x = Due.days(Due.touches(Due.house("t19,u15;99"), 0, 11), 3);
            x.touch(0);
            due.is("of 20 LOOKS", x.thing(0, 3), 0);
        });
    }

    private static void day(Due due) {
        due.sentence("Terms, a DAY: it is 1 more", () -> {
            LeastMissed x = Due.house(SEVEN);
            for (int day = 1; day <= 30; day++) {
                x.day();
                due.is("count(3)", x.count(3), day);
            }
        });
        due.sentence("Terms, a DAY: SINCE is 1 more for each THING", () -> {
            LeastMissed x = Due.house(SEVEN);
            for (int day = 1; day <= 2; day++) {
                x.day();
                for (int thing = 0; thing < 7; thing++) {
                    due.is("DAY " + day + ", thing(" + thing + ", 3)", x.thing(thing, 3), day);
                }
            }
        });
        due.sentence("Terms, a DAY: not for one that is TAKEN", () -> {
            LeastMissed x = Due.takes(Due.days(Due.house("t10,t19,t10;99"), 2), 2);
            Due.days(x, 3);
            due.is("thing(0, 3), TAKEN", x.thing(0, 3), 2);
            due.is("thing(2, 3), TAKEN", x.thing(2, 3), 2);
            due.is("thing(1, 3)", x.thing(1, 3), 5);
            x.redeem(0);
            x.day();
            due.is("thing(0, 3), redeemed", x.thing(0, 3), 3);
        });
    }

    private static void takesWhich(Due due) {
        due.sentence("Terms, TAKES: that THING that is least MISSED", () -> {
            due.is("the first", Due.house("u18,u19,u19;99").take(), 0);
            due.is("the middle", Due.house("u19,u18,u19;99").take(), 1);
            due.is("the last", Due.house("u19,u19,u18;99").take(), 2);
            due.is("by MISSED, not by LOOKS", Due.days(Due.house("u15,s19,t18;99"), 2).take(), 1);
            due.is("the last of seven", Due.house("u19,u19,u19,u19,u19,u19,u18;99").take(), 6);
        });
        due.sentence("Terms, TAKES: of those that are not TAKEN", () -> {
            LeastMissed x = Due.house("u10,u18,u19;99");
            due.is("take()", x.take(), 0);
            due.is("then", x.take(), 1);
            due.is("then", x.take(), 2);
            x.redeem(1);
            due.is("one that came back", x.take(), 1);
        });
        due.sentence("Terms, TAKES: of like ones the least", () -> {
            due.is("of all", Due.house("u15,u15,u15;99").take(), 0);
            due.is("of the last two", Due.house("u16,u15,u15;99").take(), 1);
            due.is("whatever WORTH", Due.house("u95,u15;99").take(), 0);
            due.is("whatever KIND", Due.house("p19,c14,u14;99").take(), 0);
            due.is("of 20 MISSED", Due.touches(Due.touches(Due.house("u19,u19;99"), 0, 20), 1, 20).take(), 0);
        });
    }

    private static void takesWorth(Due due) {
        due.sentence("Terms, TAKES: the DEBT is as much less as its WORTH is", () -> {
            due.is("WORTH 1 of 99", Due.takes(Due.house("t10,t11;99"), 1).count(2), 98);
            due.is("WORTH 9 of 99", Due.takes(Due.house("t90,t11;99"), 1).count(2), 90);
            due.is("WORTH 9 of 10", Due.takes(Due.house("t90,t11;10"), 1).count(2), 1);
            due.is("WORTH 9 of 9", Due.takes(Due.house("t90,t11;09"), 1).count(2), 0);
            LeastMissed x = Due.house("t90,t11;99");
            x.change(0, 0, 2);
            due.is("WORTH as it is now", Due.takes(x, 1).count(2), 97);
        });
        due.sentence("Terms, TAKES: the DEBT is 0 at least", () -> {
            due.is("WORTH 9 of 8", Due.takes(Due.house("t90,t11;08"), 1).count(2), 0);
            due.is("WORTH 9 of 1", Due.takes(Due.house("t90,t11;01"), 1).count(2), 0);
            due.is("WORTH 2 of 1", Due.takes(Due.house("t20,t11;01"), 1).count(2), 0);
        });
    }

    private static void takesNothing(Due due) {
        due.sentence("Terms, TAKES: nothing, if the DEBT is 0", () -> {
            LeastMissed x = Due.house("t10,t11;00");
            due.refused("take() of 0", x, STATE, x::take);
            due.is("take() of 1", Due.house("t10,t11;01").take(), 0);
            LeastMissed y = Due.takes(Due.house("t90,t11;08"), 1);
            due.refused("take() when it came to 0", y, STATE, y::take);
            y.borrow(1);
            due.is("take() of 1 more", y.take(), 1);
        });
        due.sentence("Terms, TAKES: nothing, if all is TAKEN", () -> {
            LeastMissed x = Due.takes(Due.house("t10,t11;99"), 1);
            due.is("take() of the last", x.take(), 1);
            due.refused("take() of none", x, STATE, x::take);
            due.is("count(2)", x.count(2), 97);
            LeastMissed y = Due.takes(Due.house(SEVEN), 7);
            due.is("count(1) of seven", y.count(1), 7);
            due.refused("take() of none of seven", y, STATE, y::take);
            y.redeem(6);
            due.is("take() of one that came back", y.take(), 6);
        });
    }
}
