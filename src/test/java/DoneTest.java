/** Promises 8 to 13: touches, days, what is taken, redeemed, borrowed and changed. */
public final class DoneTest {
    private static final int UNKNOWN = -101, OUTSIDE = -102, STATE = -103, FULL = -104;
    private static final int LEAST = Integer.MIN_VALUE, MOST = Integer.MAX_VALUE;
    private static final Due due = new Due();

    public static void main(String[] args) {
        touch();
        touchRefused();
        day();
        take();
        takeNothing();
        redeem();
        borrow();
        change();
        changeRefused();
        due.end();
    }

    private static void touch() {
        LeastMissed x = Due.days(Due.house("t14,c14,u14,p14,s14;99"), 3);
        int[] missed = {5, 5, 5, 2, 5};
        for (int thing = 0; thing < 5; thing++) {
            due.is("8: touch(" + thing + ")", x.touch(thing), missed[thing]);
            due.is("8: its looks", x.thing(thing, 2), 5);
            due.is("8: its since", x.thing(thing, 3), 0);
            due.is("8: how often any was", x.count(6), thing + 1);
        }
        due.is("8: no day went by", x.count(3), 3);
        x = Due.touches(Due.house("u19,t19;99"), 0, 10);
        due.is("8: looks 19", x.thing(0, 2), 19);
        due.is("8: touch to 20", x.touch(0), 20);
        due.is("8: 20 at most", x.touch(0), 20);
        due.is("8: it counts all the same", x.count(6), 12);
        due.is("8: the other is as it was", x.thing(1, 2), 9);
        x.day();
        x.touch(0);
        due.is("8: since 0 at 20 looks too", x.thing(0, 3), 0);
    }

    private static void touchRefused() {
        LeastMissed x = Due.house("t10,t15;99");
        for (int thing : new int[] {-1, 2, 7, LEAST, MOST}) {
            due.is("8: touch(" + thing + ")", x.touch(thing), UNKNOWN);
        }
        due.is("8: no house", new LeastMissed().touch(0), UNKNOWN);
        x.take();
        due.is("8: a taken one", x.touch(0), STATE);
        due.is("8: its looks stay", x.thing(0, 2), 0);
        due.is("8: none counted", x.count(6), 0);
        // Past the 512 calls that the document promises: the bound is held all the same.
        Due.touches(x, 1, 999);
        due.is("8: 999 touches", x.count(6), 999);
        due.is("8: one more", x.touch(1), FULL);
        due.is("8: STATE ahead of FULL", x.touch(0), STATE);
        due.is("8: UNKNOWN ahead of FULL", x.touch(2), UNKNOWN);
    }

    private static void day() {
        due.is("9: no house", new LeastMissed().day(), STATE);
        LeastMissed x = Due.house("t10,t15;99");
        due.is("9: the first", x.day(), 1);
        due.is("9: the second", x.day(), 2);
        due.is("9: count(3)", x.count(3), 2);
        x.take();
        due.is("9: the third", x.day(), 3);
        due.is("9: a taken one does not wait", x.thing(0, 3), 2);
        due.is("9: the other does", x.thing(1, 3), 3);
        // Past the 512 calls that the document promises: the bound is held all the same.
        Due.days(x, 996);
        due.is("9: 999 days", x.count(3), 999);
        due.is("9: one more", x.day(), FULL);
        due.is("9: still", x.count(3), 999);
    }

    private static void take() {
        LeastMissed x = Due.house("t94,t13,t53,u33;20");
        due.is("10: of like ones the least number", x.take(), 1);
        due.is("10: the debt", x.count(2), 19);
        due.is("10: taken", x.thing(1, 5), 1);
        due.is("10: the next", x.take(), 2);
        due.is("10: the debt", x.count(2), 14);
        due.is("10: a cup", x.take(), 3);
        due.is("10: the last", x.take(), 0);
        due.is("10: the debt", x.count(2), 2);
        due.is("10: all is taken", x.take(), STATE);
        due.is("10: the debt stays", x.count(2), 2);
        x = Due.days(Due.house("u14,t19,c19,s19;50"), 2);
        due.is("10: by kinds a smell", x.take(), 3);
        due.is("10: then a cup", x.take(), 0);
        due.is("10: then a clock", x.take(), 2);
        due.is("10: then a thing", x.take(), 1);
    }

    private static void takeNothing() {
        due.is("10: no house", new LeastMissed().take(), STATE);
        due.is("10: no debt", Due.house("t10,t10;00").take(), STATE);
        LeastMissed x = Due.house("t90,t10;03");
        due.is("10: more than is owed", x.take(), 0);
        due.is("10: 0 at least", x.count(2), 0);
        due.is("10: nothing owed", x.take(), STATE);
        due.is("10: nothing more is taken", x.count(1), 1);
        x = Due.house("t30,t10;03");
        x.take();
        due.is("10: just what is owed", x.count(2), 0);
        due.is("10: nothing owed then", x.take(), STATE);
    }

    private static void redeem() {
        LeastMissed x = Due.touches(Due.house("t40,t35;06"), 0, 1);
        Due.days(x, 2);
        due.is("11: taken", x.take(), 0);
        Due.days(x, 3);
        due.is("11: not taken", x.redeem(1), STATE);
        due.is("11: the debt", x.redeem(0), 6);
        due.is("11: back", x.thing(0, 5), 0);
        due.is("11: looks as they were", x.thing(0, 2), 1);
        due.is("11: since as it was", x.thing(0, 3), 2);
        due.is("11: touches as they were", x.count(6), 1);
        due.is("11: again", x.redeem(0), STATE);
        x.day();
        due.is("11: it waits again", x.thing(0, 3), 3);
        for (int thing : new int[] {-1, 2, LEAST, MOST}) {
            due.is("11: redeem(" + thing + ")", x.redeem(thing), UNKNOWN);
        }
        due.is("11: no house", new LeastMissed().redeem(0), UNKNOWN);
        x = Due.takes(Due.house("t50,t31;99"), 1);
        x.borrow(5);
        due.is("11: just 99", x.count(2), 99);
        due.is("11: more than 99", x.redeem(0), FULL);
        due.is("11: it stays taken", x.thing(0, 5), 1);
        due.is("11: the debt stays", x.count(2), 99);
        due.is("11: STATE ahead of FULL", x.redeem(1), STATE);
        x = Due.takes(Due.house("t50,t31;99"), 1);
        due.is("11: to 99", x.redeem(0), 99);
        x = Due.takes(Due.house("t90,t31;02"), 1);
        due.is("11: all its worth, from 0", x.redeem(0), 9);
    }

    private static void borrow() {
        LeastMissed x = Due.house("t10,t10;00");
        due.is("12: 1", x.borrow(1), 1);
        due.is("12: 50", x.borrow(50), 51);
        for (int more : new int[] {0, 51, -1, LEAST, MOST}) {
            due.is("12: borrow(" + more + ")", x.borrow(more), OUTSIDE);
            due.is("12: OUTSIDE ahead of STATE", new LeastMissed().borrow(more), OUTSIDE);
        }
        due.is("12: no house", new LeastMissed().borrow(1), STATE);
        due.is("12: to 99", x.borrow(48), 99);
        due.is("12: more than 99", x.borrow(1), FULL);
        due.is("12: OUTSIDE ahead of FULL", x.borrow(51), OUTSIDE);
        due.is("12: the debt stays", x.count(2), 99);
    }

    private static void change() {
        LeastMissed x = Due.days(Due.touches(Due.house("t14,p29;60"), 0, 2), 2);
        due.is("13: it was a thing", x.change(0, 4, 9), 0);
        int[] told = {4, 9, 6, 2, 0, 0};
        for (int what = 0; what < told.length; what++) {
            due.is("13: thing(0, " + what + ")", x.thing(0, what), told[what]);
        }
        due.is("13: it was a piano", x.change(1, 0, 1), 3);
        due.is("13: now a thing", x.thing(1, 4), 7);
        due.is("13: it was a smell", x.change(0, 2, 1), 4);
        due.is("13: it was a cup", x.change(0, 1, 1), 2);
        due.is("13: it was a clock", x.change(0, 1, 1), 1);
        due.is("13: taken", x.take(), 0);
        due.is("13: a taken one", x.change(0, 3, 7), 1);
        due.is("13: taken as it was", x.thing(0, 5), 1);
        due.is("13: worth of the taken", x.count(7), 7);
        due.is("13: the debt is as it was", x.count(2), 59);
        due.is("13: redeemed by its worth now", x.redeem(0), 66);
    }

    private static void changeRefused() {
        LeastMissed x = Due.house("t14,p29;60");
        int[][] wrong = {{-1, 1}, {5, 1}, {LEAST, 1}, {MOST, 1}, {1, 0}, {1, 10}, {1, -1}, {1, LEAST}, {1, MOST}};
        for (int[] pair : wrong) {
            String call = pair[0] + ", " + pair[1];
            due.is("13: change(0, " + call + ")", x.change(0, pair[0], pair[1]), OUTSIDE);
            due.is("13: UNKNOWN ahead: " + call, x.change(2, pair[0], pair[1]), UNKNOWN);
        }
        due.is("13: the kind stays", x.thing(0, 0), 0);
        due.is("13: the worth stays", x.thing(0, 1), 1);
        due.is("13: change(-1, ..)", x.change(-1, 0, 1), UNKNOWN);
        due.is("13: no house", new LeastMissed().change(0, 0, 1), UNKNOWN);
    }
}
