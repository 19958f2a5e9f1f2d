/** Promises 14 to 18: what would be taken, the siege, making up a debt, the child, the sale. */
public final class WouldBeTest {
    private static final int NONE = -1, UNKNOWN = -101, OUTSIDE = -102, STATE = -103;
    private static final int LEAST = Integer.MIN_VALUE, MOST = Integer.MAX_VALUE;
    private static final Due due = new Due();

    public static void main(String[] args) {
        next();
        siege();
        siegeOfLikeOnes();
        siegeRefused();
        makeUp();
        odds();
        oddsRefused();
        sale();
        saleOfLikeOnes();
        saleRefused();
        due.end();
    }

    private static void next() {
        LeastMissed x = Due.house("t94,c39,u12,s89;10");
        int[] byDay = {2, 2, 3, 3, 0, 0};
        for (int day = 0; day < byDay.length; day++) {
            due.is("14: next(" + day + ")", x.next(day), byDay[day]);
        }
        due.is("14: next(20)", x.next(20), 0);
        due.is("14: no day went by", x.count(3), 0);
        due.is("14: nothing is taken", x.count(1), 0);
        x.take();
        due.is("14: of those that are left", x.next(0), 0);
        Due.days(x, 2);
        due.is("14: from now", x.next(0), 3);
        due.is("14: no debt", Due.house("t10,t10;00").next(0), NONE);
        due.is("14: all is taken", Due.takes(Due.house("t10,t10;99"), 2).next(5), NONE);
        for (int days : new int[] {-1, 21, LEAST, MOST}) {
            due.is("14: next(" + days + ")", x.next(days), OUTSIDE);
            due.is("14: OUTSIDE ahead of STATE", new LeastMissed().next(days), OUTSIDE);
        }
        due.is("14: no house", new LeastMissed().next(0), STATE);
    }

    private static void siege() {
        sieged("t51,t11;01", 1, 1, 1, 0, NONE, NONE, NONE);
        sieged("t93,t11,t15;09", 1, 1, 7, 0, NONE, NONE, NONE);
        sieged("t11,t91;01", 2, 1, 2, 1, 1, NONE, NONE);
        sieged("t11,t91;01", 3, 1, 3, 1, 1, 1, NONE);
        sieged("u11,u11;00", 1, 0, 3, 0, NONE, NONE, NONE);
        sieged("u11,u11;00", 4, 0, 6, 0, 0, 0, 0);
        sieged("p18,c18;00", 1, 0, 10, 1, NONE, NONE, NONE);
        sieged("p14,t15,t10;09", 1, 1, 6, 1, NONE, NONE, NONE);
    }

    private static void siegeOfLikeOnes() {
        sieged("t10,t10;99", 2, 2, 0, 0, 1, NONE, NONE);
        sieged("t10,t10;99", 3, 2, 0, 0, 1, 7, NONE);
        sieged("t10,t10;99", 4, 2, 0, 0, 1, 7, 7);
        LeastMissed x = Due.touches(Due.house("u11,u11;00"), 0, 19);
        due.is("15: one at 20 looks gains nothing", x.siege(1, 10), 1);
        Due.touches(x, 1, 19);
        due.is("15: nor do both", x.siege(1, 1), 40);
        due.is("15: so the first", x.siege(1, 10), 0);
        x = Due.takes(Due.house("t10,t10;99"), 1);
        due.is("15: only one that is not taken", x.siege(1, 10), 1);
        due.is("15: worth by it, not ahead of it", x.siege(1, 0), 1);
        x.take();
        due.is("15: all is taken", x.siege(1, 10), 7);
        due.is("15: no more worth", x.siege(1, 0), 0);
    }

    private static void sieged(String text, int days, int... want) {
        LeastMissed x = Due.house(text);
        long before = x.digest();
        int[] whats = {0, 1, 10, 11, 12, 13};
        for (int i = 0; i < whats.length; i++) {
            due.is("15: " + text + " siege(" + days + ", " + whats[i] + ")", x.siege(days, whats[i]), want[i]);
        }
        due.is("15: it changes nothing", x.digest(), before);
    }

    private static void siegeRefused() {
        LeastMissed x = Due.house("t51,t11;01");
        int[][] wrong = {{0, 0}, {5, 0}, {-1, 0}, {LEAST, 0}, {MOST, 0}, {1, -1}, {1, 2}, {1, 9}, {1, 14},
            {4, LEAST}, {4, MOST}};
        for (int[] pair : wrong) {
            String call = "siege(" + pair[0] + ", " + pair[1] + ")";
            due.is("15: " + call, x.siege(pair[0], pair[1]), OUTSIDE);
            due.is("15: OUTSIDE ahead of STATE: " + call, new LeastMissed().siege(pair[0], pair[1]), OUTSIDE);
        }
        due.is("15: no house", new LeastMissed().siege(1, 0), STATE);
    }

    private static void makeUp() {
        madeUp("t15,t22,t13;03", 5, 3, 6);
        madeUp("t52,t41,t11;04", 1, 4, 2);
        madeUp("t52,t42;04", 2, 4, 2);
        madeUp("t42,t42;04", 2, 4, 1);
        madeUp("t50,t30;03", 0, 3, 2);
        madeUp("t11,t11;02", 2, 2, 3);
        madeUp("t11,t11;03", NONE, NONE, NONE);
        madeUp("t11,t11;00", 0, 0, 0);
        madeUp("t90,t90,t90,t90,t90,t90,t90;63", 0, 63, 127);
        madeUp("t90,t90,t90,t90,t90,t90,t90;64", NONE, NONE, NONE);
        LeastMissed x = Due.takes(Due.house("t30,t32,t34;09"), 1);
        due.is("16: of those that are not taken", x.makeUp(2), 6);
        Due.days(x, 2);
        due.is("16: as they are missed now", x.makeUp(0), 2);
        for (int what : new int[] {-1, 3, LEAST, MOST}) {
            due.is("16: makeUp(" + what + ")", x.makeUp(what), OUTSIDE);
            due.is("16: OUTSIDE ahead of STATE", new LeastMissed().makeUp(what), OUTSIDE);
        }
        due.is("16: no house", new LeastMissed().makeUp(0), STATE);
    }

    private static void madeUp(String text, int... want) {
        LeastMissed x = Due.house(text);
        for (int what = 0; what < 3; what++) {
            due.is("16: " + text + " makeUp(" + what + ")", x.makeUp(what), want[what]);
        }
    }

    private static void odds() {
        likely("t10,t10;05", 0, 1, 1, 1);
        likely("t10,t10;05", 1, 1, 0, 1);
        likely("u11,u11;05", 0, 1, 1, 2);
        likely("u11,u11;05", 1, 1, 1, 2);
        likely("u11,u11;05", 0, 2, 3, 4);
        likely("u11,u11;05", 1, 2, 1, 4);
        likely("u11,u11;05", 0, 3, 1, 2);
        likely("u11,u11,u19,u19;05", 1, 2, 5, 16);
        likely("u11,u11,u19,u19;05", 0, 2, 11, 16);
        likely("u11,u11,u19,u19;05", 3, 2, 0, 1);
        likely("u11,u11;00", 0, 1, 0, 1);
        LeastMissed x = Due.takes(Due.house("u10,u11,u11;05"), 1);
        due.is("17: among those that are left", x.odds(1, 2, 0), 3);
        due.is("17: of those", x.odds(1, 2, 1), 4);
        x = Due.days(Due.house("t14,t12;05"), 1);
        due.is("17: from what it is since", x.odds(0, 1, 0), 1);
        due.is("17: of those", x.odds(0, 1, 1), 2);
    }

    private static void likely(String text, int thing, int days, int above, int below) {
        LeastMissed x = Due.house(text);
        long before = x.digest();
        String call = "17: " + text + " odds(" + thing + ", " + days + ", ";
        due.is(call + "0)", x.odds(thing, days, 0), above);
        due.is(call + "1)", x.odds(thing, days, 1), below);
        due.is("17: it changes nothing", x.digest(), before);
    }

    private static void oddsRefused() {
        LeastMissed x = Due.takes(Due.house("t10,t15;50"), 1);
        int[][] wrong = {{0, 0}, {4, 0}, {-1, 0}, {LEAST, 0}, {MOST, 0}, {1, -1}, {1, 2}, {1, LEAST}, {1, MOST}};
        for (int[] pair : wrong) {
            String call = pair[0] + ", " + pair[1] + ")";
            due.is("17: odds(1, " + call, x.odds(1, pair[0], pair[1]), OUTSIDE);
            due.is("17: OUTSIDE ahead of STATE: odds(0, " + call, x.odds(0, pair[0], pair[1]), OUTSIDE);
            due.is("17: UNKNOWN ahead of OUTSIDE: odds(2, " + call, x.odds(2, pair[0], pair[1]), UNKNOWN);
        }
        due.is("17: a taken one", x.odds(0, 1, 0), STATE);
        due.is("17: odds(-1, 1, 0)", x.odds(-1, 1, 0), UNKNOWN);
        due.is("17: no house", new LeastMissed().odds(0, 1, 0), UNKNOWN);
    }

    private static void sale() {
        LeastMissed x = Due.house("t10,t15,t19;99");
        sold(x, 0, NONE, NONE, NONE);
        x.take();
        sold(x, 2, 2, NONE, NONE);
        x.take();
        sold(x, 7, 2, 1, NONE);
        x.take();
        sold(x, 14, 0, 1, 2);
        due.is("18: count(11)", x.count(11), 4);
        x.redeem(0);
        due.is("18: as it would be now", x.thing(0, 8), NONE);
        due.is("18: the others too", x.thing(1, 8), 1);
    }

    private static void saleOfLikeOnes() {
        LeastMissed x = Due.takes(Due.house("t10,t10,t10;99"), 2);
        sold(x, 3, 2, 0, NONE);
        x.take();
        sold(x, 4, 1, 2, 0);
        x = Due.takes(Due.house("t10,t10,t10,t10,t10,t10,t10;99"), 2);
        sold(x, 10, 5, 6, NONE);
        x.redeem(0);
        sold(x, 5, NONE, 6, NONE);
        x = Due.takes(Due.house("t10,t10,t10,t10,t10,t10,t10;99"), 7);
        sold(x, 24, 3, 4, 5, 6, 0, 1, 2);
    }

    private static void sold(LeastMissed x, int together, int... buyers) {
        due.is("18: sale()", x.sale(), together);
        for (int thing = 0; thing < buyers.length; thing++) {
            due.is("18: thing(" + thing + ", 8)", x.thing(thing, 8), buyers[thing]);
        }
    }

    private static void saleRefused() {
        LeastMissed x = new LeastMissed();
        due.is("18: no house", x.sale(), STATE);
        due.is("18: a refused one is not done", x.count(11), 0);
        Due.write(x, "t10,t10;99");
        x.house();
        x.take();
        for (int i = 1; i <= 16; i++) {
            due.is("18: sale " + i, x.sale(), 1);
            due.is("18: count(11)", x.count(11), i);
        }
        due.is("18: the 17th", x.sale(), STATE);
        due.is("18: not counted", x.count(11), 16);
        due.is("18: thing() tells it all the same", x.thing(0, 8), 1);
        // The document does not say that another house brings new sales: it is the object that did them.
        Due.write(x, "t10,t10;99");
        x.house();
        due.is("18: with another house", x.sale(), STATE);
        due.is("18: still done", x.count(11), 16);
    }
}
