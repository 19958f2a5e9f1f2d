/** Promises 8 to 13: each sentence that names a boundary, by a test of its own. */
public final class DoneEdgesTest {
    private static final int UNKNOWN = -101, OUTSIDE = -102, STATE = -103, FULL = -104;
    private static final String TWO = "t40,u35;06";
    private static final String SEVEN = "t10,c29,u38,p47,s56,t65,c94;83";

    public static void main(String[] args) {
        Due due = new Due();
        tell(due);
        due.end();
    }

    static void tell(Due due) {
        touch(due);
        touchOrder(due);
        day(due);
        take(due);
        redeem(due);
        redeemRefused(due);
        borrow(due);
        borrowOrder(due);
        change(due);
        changeRefused(due);
    }

    private static void touch(Due due) {
        due.sentence("Promise 8: by how much it is MISSED then", () -> {
            LeastMissed x = Due.days(Due.house("t14,c14,u14,p14,s10;99"), 4);
            int[] missed = {5, 5, 5, 2, 1};
            for (int thing = 0; thing < 5; thing++) {
                due.is("touch(" + thing + ")", x.touch(thing), missed[thing]);
            }
        });
        due.sentence("Promise 8: UNKNOWN", () -> {
            LeastMissed none = new LeastMissed();
            LeastMissed two = Due.house(TWO);
            LeastMissed seven = Due.house(SEVEN);
            due.refused("no HOUSE, touch(0)", none, UNKNOWN, () -> none.touch(0));
            due.outside("of two, touch(#)", two, 0, 1, UNKNOWN, two::touch);
            due.outside("of seven, touch(#)", seven, 0, 6, UNKNOWN, seven::touch);
            due.is("of two, touch(1)", two.touch(1), 6);
            due.is("of seven, touch(6)", seven.touch(6), 5);
        });
        due.sentence("Promise 8: STATE: it is TAKEN", () -> {
            LeastMissed x = Due.takes(Due.days(Due.house(TWO), 1), 1);
            due.refused("touch(0)", x, STATE, () -> x.touch(0));
            due.is("touch(1)", x.touch(1), 6);
            x.redeem(0);
            due.is("touch(0), redeemed", x.touch(0), 1);
        });
        // 999 is past the 512 calls that the document promises: the bound is held all the same.
        due.sentence("Promise 8: FULL: 999 were", () -> {
            LeastMissed x = Due.touches(Due.house(TWO), 0, 998);
            due.is("count(6)", x.count(6), 998);
            due.is("the 999th", x.touch(1), 6);
            due.is("count(6) then", x.count(6), 999);
            x.day();
            due.refused("the 1000th", x, FULL, () -> x.touch(0));
            due.refused("of another", x, FULL, () -> x.touch(1));
        });
    }

    private static void touchOrder(Due due) {
        due.sentence("Promise 8: UNKNOWN ahead of FULL", () -> {
            LeastMissed x = Due.touches(Due.house(TWO), 1, 999);
            due.outside("touch(#)", x, 0, 1, UNKNOWN, x::touch);
        });
        due.sentence("Promise 8: STATE ahead of FULL", () -> {
            LeastMissed x = Due.takes(Due.touches(Due.house(TWO), 1, 999), 1);
            due.refused("touch(0)", x, STATE, () -> x.touch(0));
            due.refused("touch(1)", x, FULL, () -> x.touch(1));
        });
    }

    private static void day(Due due) {
        due.sentence("Promise 9: which it is", () -> {
            LeastMissed x = Due.house(TWO);
            for (int day = 1; day <= 25; day++) {
                due.is("day()", x.day(), day);
            }
        });
        due.sentence("Promise 9: STATE: no HOUSE", () -> {
            LeastMissed none = new LeastMissed();
            due.refused("day()", none, STATE, none::day);
            LeastMissed page = Due.page(TWO);
            due.refused("day() with a PAGE that could be one", page, STATE, page::day);
        });
        due.sentence("Promise 9: FULL: 999 did", () -> {
            LeastMissed x = Due.days(Due.house(TWO), 998);
            due.is("the 999th", x.day(), 999);
            x.touch(0);
            due.refused("the 1000th", x, FULL, x::day);
            due.is("SINCE behind it", x.thing(0, 3), 0);
        });
        due.sentence("Promise 9: a DAY goes by when all is TAKEN, too", () -> {
            LeastMissed x = Due.takes(Due.house("t10,t10;99"), 2);
            due.is("day()", x.day(), 1);
            due.is("SINCE", x.thing(0, 3), 0);
        });
    }

    private static void take(Due due) {
        due.sentence("Promise 10: which THING", () -> {
            due.is("take() of the first", Due.house(TWO).take(), 0);
            LeastMissed x = Due.house("t65,t65,t65,t65,t65,t65,c64;83");
            due.is("take() of the last", x.take(), 6);
            due.is("count(1)", x.count(1), 1);
            due.is("thing(6, 5)", x.thing(6, 5), 1);
        });
        due.sentence("Promise 10: STATE: no HOUSE", () -> {
            LeastMissed none = new LeastMissed();
            due.refused("take()", none, STATE, none::take);
        });
        due.sentence("Promise 10: STATE: he TAKES nothing", () -> {
            LeastMissed owesNothing = Due.house("t40,u35;00");
            due.refused("take() with no DEBT", owesNothing, STATE, owesNothing::take);
            LeastMissed hasNothing = Due.takes(Due.house("t40,u35;99"), 2);
            due.refused("take() with all TAKEN", hasNothing, STATE, hasNothing::take);
            LeastMissed both = Due.takes(Due.house("t40,u35;07"), 2);
            due.refused("take() with both", both, STATE, both::take);
        });
    }

    private static void redeem(Due due) {
        due.sentence("Promise 11: all as it was", () -> {
            LeastMissed x = Due.days(Due.touches(Due.house("s41,u35;06"), 0, 2), 3);
            x.take();
            Due.days(x, 4);
            x.redeem(0);
            int[] told = {4, 4, 3, 3, 0, 0};
            for (int what = 0; what < told.length; what++) {
                due.is("thing(0, " + what + ")", x.thing(0, what), told[what]);
            }
            due.is("count(6)", x.count(6), 2);
            due.is("count(3)", x.count(3), 7);
        });
        due.sentence("Promise 11: it costs as much DEBT as its WORTH", () -> {
            LeastMissed x = Due.takes(Due.house("t10,t95;06"), 2);
            due.is("count(2)", x.count(2), 0);
            due.is("redeem(0)", x.redeem(0), 1);
            due.is("redeem(1)", x.redeem(1), 10);
            due.is("count(2) then", x.count(2), 10);
            due.is("count(1) then", x.count(1), 0);
        });
        due.sentence("Promise 11: UNKNOWN", () -> {
            LeastMissed none = new LeastMissed();
            LeastMissed two = Due.takes(Due.house(TWO), 1);
            LeastMissed seven = Due.takes(Due.house(SEVEN), 7);
            due.refused("no HOUSE, redeem(0)", none, UNKNOWN, () -> none.redeem(0));
            due.outside("of two, redeem(#)", two, 0, 1, UNKNOWN, two::redeem);
            due.outside("of seven, redeem(#)", seven, 0, 6, UNKNOWN, seven::redeem);
            due.is("of seven, redeem(6)", seven.redeem(6), 83 - 30 + 9);
        });
        due.sentence("Promise 11: STATE: it is not TAKEN", () -> {
            LeastMissed x = Due.takes(Due.house(TWO), 1);
            due.refused("redeem(1)", x, STATE, () -> x.redeem(1));
            due.is("redeem(0)", x.redeem(0), 6);
            due.refused("redeem(0) again", x, STATE, () -> x.redeem(0));
        });
    }

    private static void redeemRefused(Due due) {
        due.sentence("Promise 11: FULL: there would be more than 99", () -> {
            LeastMissed x = Due.takes(Due.house("t50,t95;99"), 1);
            x.borrow(1);
            due.refused("to 100", x, FULL, () -> x.redeem(0));
            due.is("thing(0, 5)", x.thing(0, 5), 1);
            x.change(0, 0, 4);
            due.is("to 99", x.redeem(0), 99);
            LeastMissed y = Due.takes(Due.house("t90,t95;99"), 1);
            y.borrow(9);
            due.refused("to 108", y, FULL, () -> y.redeem(0));
            y.change(0, 0, 1);
            due.refused("from 99 to 100", y, FULL, () -> y.redeem(0));
        });
        due.sentence("Promise 11: UNKNOWN ahead of FULL", () -> {
            LeastMissed x = Due.takes(Due.house("t50,t95;99"), 1);
            x.borrow(5);
            due.outside("redeem(#)", x, 0, 1, UNKNOWN, x::redeem);
        });
        due.sentence("Promise 11: STATE ahead of FULL", () -> {
            LeastMissed x = Due.takes(Due.house("t50,t95;99"), 1);
            x.borrow(5);
            due.refused("redeem(1) at 99", x, STATE, () -> x.redeem(1));
        });
    }

    private static void borrow(Due due) {
        due.sentence("Promise 12: how much", () -> {
            LeastMissed x = Due.house("t10,t10;00");
            due.is("borrow(1)", x.borrow(1), 1);
            due.is("borrow(50)", x.borrow(50), 51);
            due.is("count(2)", x.count(2), 51);
        });
        due.sentence("Promise 12: OUTSIDE: more (1 to 50)", () -> {
            LeastMissed x = Due.house("t10,t10;00");
            due.outside("borrow(#)", x, 1, 50, OUTSIDE, x::borrow);
            due.is("borrow(50)", x.borrow(50), 50);
            due.is("borrow(1)", x.borrow(1), 51);
            due.outside("borrow(#) then", x, 1, 50, OUTSIDE, x::borrow);
            due.refused("borrow(-1)", x, OUTSIDE, () -> x.borrow(-1));
        });
        due.sentence("Promise 12: STATE: no HOUSE", () -> {
            LeastMissed none = new LeastMissed();
            due.refused("borrow(1)", none, STATE, () -> none.borrow(1));
            due.refused("borrow(50)", none, STATE, () -> none.borrow(50));
        });
        due.sentence("Promise 12: FULL: there would be more than 99", () -> {
            LeastMissed x = Due.house("t10,t10;49");
            due.is("to 99", x.borrow(50), 99);
            due.refused("borrow(1)", x, FULL, () -> x.borrow(1));
            due.refused("borrow(50)", x, FULL, () -> x.borrow(50));
            LeastMissed y = Due.house("t10,t10;50");
            due.refused("to 100", y, FULL, () -> y.borrow(50));
            due.is("to 99 by 49", y.borrow(49), 99);
        });
        due.sentence("Promise 12: there may be DEBT when all is TAKEN", () -> {
            LeastMissed x = Due.takes(Due.house("t10,t10;02"), 2);
            due.is("borrow(1)", x.borrow(1), 1);
        });
    }

    private static void borrowOrder(Due due) {
        due.sentence("Promise 12: OUTSIDE ahead of STATE", () -> {
            LeastMissed none = new LeastMissed();
            due.outside("no HOUSE, borrow(#)", none, 1, 50, OUTSIDE, none::borrow);
        });
        due.sentence("Promise 12: OUTSIDE ahead of FULL", () -> {
            LeastMissed x = Due.house("t10,t10;99");
            due.outside("borrow(#) at 99", x, 1, 50, OUTSIDE, x::borrow);
        });
    }

    private static void change(Due due) {
        due.sentence("Promise 13: of which KIND it was", () -> {
            LeastMissed x = Due.house("t10,t10;99");
            for (int kind = 0; kind <= 4; kind++) {
                due.is("change(1, " + kind + ", 1)", x.change(1, kind, 1), kind == 0 ? 0 : kind - 1);
                due.is("thing(1, 0)", x.thing(1, 0), kind);
                due.is("change(1, " + kind + ", 1) again", x.change(1, kind, 1), kind);
            }
            due.is("the other", x.thing(0, 0), 0);
        });
        due.sentence("Promise 13: LOOKS as it was", () -> {
            LeastMissed x = Due.touches(Due.house("t10,t19;99"), 1, 11);
            x.change(0, 3, 5);
            x.change(1, 4, 5);
            due.is("thing(0, 2)", x.thing(0, 2), 0);
            due.is("thing(1, 2)", x.thing(1, 2), 20);
        });
        due.sentence("Promise 13: SINCE as it was", () -> {
            LeastMissed x = Due.days(Due.house("t10,t19;99"), 20);
            x.change(0, 3, 5);
            due.is("thing(0, 3)", x.thing(0, 3), 20);
            x.change(0, 3, 5);
            due.is("thing(0, 3) again", x.thing(0, 3), 20);
        });
        due.sentence("Promise 13: TAKEN or not as it was", () -> {
            LeastMissed x = Due.takes(Due.house("t10,t19;99"), 1);
            due.is("change(0, 3, 5)", x.change(0, 3, 5), 0);
            due.is("change(1, 4, 5)", x.change(1, 4, 5), 0);
            due.is("thing(0, 5)", x.thing(0, 5), 1);
            due.is("thing(1, 5)", x.thing(1, 5), 0);
            due.is("count(2)", x.count(2), 98);
            due.is("count(7)", x.count(7), 5);
        });
    }

    private static void changeRefused(Due due) {
        due.sentence("Promise 13: UNKNOWN", () -> {
            LeastMissed none = new LeastMissed();
            LeastMissed two = Due.house(TWO);
            LeastMissed seven = Due.house(SEVEN);
            due.refused("no HOUSE, change(0, 0, 1)", none, UNKNOWN, () -> none.change(0, 0, 1));
            due.outside("of two, change(#, 0, 1)", two, 0, 1, UNKNOWN, n -> two.change(n, 0, 1));
            due.outside("of seven, change(#, 4, 9)", seven, 0, 6, UNKNOWN, n -> seven.change(n, 4, 9));
        });
        due.sentence("Promise 13: OUTSIDE: kind (0 to 4)", () -> {
            LeastMissed x = Due.house(TWO);
            due.outside("change(0, #, 1)", x, 0, 4, OUTSIDE, n -> x.change(0, n, 1));
            due.outside("change(1, #, 9)", x, 0, 4, OUTSIDE, n -> x.change(1, n, 9));
            due.is("change(1, 0, 9)", x.change(1, 0, 9), 2);
            due.is("change(1, 4, 9)", x.change(1, 4, 9), 0);
        });
        due.sentence("Promise 13: OUTSIDE: worth (1 to 9)", () -> {
            LeastMissed x = Due.house(TWO);
            due.outside("change(0, 1, #)", x, 1, 9, OUTSIDE, n -> x.change(0, 1, n));
            due.outside("change(1, 4, #)", x, 1, 9, OUTSIDE, n -> x.change(1, 4, n));
            due.refused("change(0, 1, -1)", x, OUTSIDE, () -> x.change(0, 1, -1));
            x.change(1, 4, 1);
            due.is("WORTH 1", x.thing(1, 1), 1);
            x.change(1, 4, 9);
            due.is("WORTH 9", x.thing(1, 1), 9);
        });
        due.sentence("Promise 13: UNKNOWN ahead of OUTSIDE", () -> {
            LeastMissed none = new LeastMissed();
            LeastMissed x = Due.house(TWO);
            due.outside("no HOUSE, change(0, #, 1)", none, 0, 4, UNKNOWN, n -> none.change(0, n, 1));
            due.outside("change(2, #, 1)", x, 0, 4, UNKNOWN, n -> x.change(2, n, 1));
            due.outside("change(-1, 0, #)", x, 1, 9, UNKNOWN, n -> x.change(-1, 0, n));
        });
    }
}
