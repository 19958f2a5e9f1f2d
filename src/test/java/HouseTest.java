/** Promises 1 to 7: a new object, the page, the house and its things. */
public final class HouseTest {
    private static final int NONE = -1, UNKNOWN = -101, OUTSIDE = -102, STATE = -103, FULL = -104;
    private static final int LEAST = Integer.MIN_VALUE, MOST = Integer.MAX_VALUE;
    private static final Due due = new Due();

    public static void main(String[] args) {
        newObject();
        letter();
        blank();
        fault();
        house();
        anotherHouse();
        thing();
        missed();
        as();
        due.end();
    }

    private static void newObject() {
        LeastMissed x = new LeastMissed();
        for (int what = 0; what <= 11; what++) {
            due.is("1: count(" + what + ")", x.count(what), 0);
        }
        due.is("1: thing(0, 0)", x.thing(0, 0), UNKNOWN);
        due.is("1: fault()", x.fault(), 0);
        due.is("1: house()", x.house(), STATE);
        due.is("1: day()", x.day(), STATE);
        due.is("1: restore()", x.restore(), STATE);
    }

    private static void letter() {
        LeastMissed x = new LeastMissed();
        due.is("2: letter(1)", x.letter(1), 1);
        due.is("2: letter(126)", x.letter(126), 2);
        for (int code : new int[] {0, 127, -1, 255, LEAST, MOST}) {
            due.is("2: letter(" + code + ")", x.letter(code), OUTSIDE);
        }
        due.is("2: refused letters are not on the page", x.count(9), 2);
        for (int i = 3; i <= 32; i++) {
            due.is("2: letter " + i, x.letter('t'), i);
        }
        due.is("2: the 33rd", x.letter('t'), FULL);
        due.is("2: OUTSIDE ahead of FULL", x.letter(127), OUTSIDE);
        due.is("2: count(9)", x.count(9), 32);
    }

    private static void blank() {
        LeastMissed x = new LeastMissed();
        due.is("3: empty", x.blank(), 0);
        Due.write(x, "t10");
        due.is("3: three letters", x.blank(), 3);
        due.is("3: none left", x.count(9), 0);
        due.is("3: again", x.blank(), 0);
        Due.write(x, "................................");
        due.is("3: a full page", x.blank(), 32);
        due.is("3: room again", x.letter('t'), 1);
        x = Due.house("t12,c34;05");
        Due.write(x, "ab");
        due.is("3: with a house", x.blank(), 2);
        due.is("3: which stays", x.count(0), 2);
    }

    private static void fault() {
        faultAt("", 0);
        for (String kind : new String[] {"t", "c", "u", "p", "s"}) {
            faultAt(kind, 1);
        }
        for (String wrong : new String[] {"x", "T", "C", "1", ",", ";", " "}) {
            faultAt(wrong, 0);
        }
        faultAt("t0", 1);
        faultAt("t1", 2);
        faultAt("t9", 2);
        faultAt("t:", 1);
        faultAt("tt", 1);
        faultAt("t10", 3);
        faultAt("t19", 3);
        faultAt("t1/", 2);
        faultAt("t1:", 2);
        faultAt("t10;", 3);
        faultAt("t10t", 3);
        faultAt("t10,", 4);
        faultAt("t10,,", 4);
        faultAt("t10,c0", 5);
        faultAt("t10,c20,", 8);
        faultAt("t10,c20;", 8);
        faultAt("t10,c20.", 7);
        faultAt("t10,c20;0", 9);
        faultAt("t10,c20;00", 10);
        faultAt("t10,c20;99", 10);
        faultAt("t10,c20;x", 8);
        faultAt("t10,c20;;", 8);
        faultAt("t10,c20;0t", 9);
        faultAt("t10,c20;0;", 9);
        faultAt("t10,c20;000", 10);
        faultAt("t10,c20;00,", 10);
        faultAt("t10,c20;00;", 10);
        faultAt("t10,x20,y30;zz", 4);
        faultAt("t10,t10,t10,t10,t10,t10,", 24);
        faultAt("t10,t10,t10,t10,t10,t10,t10", 27);
        faultAt("t10,t10,t10,t10,t10,t10,t10,", 27);
        faultAt("t10,t10,t10,t10,t10,t10,t10;", 28);
        faultAt("t10,t10,t10,t10,t10,t10,t10;99", 30);
        faultAt("t10,t10,t10,t10,t10,t10,t10;999", 30);
        faultAt("t10,t10,t10,t10,t10,t10,t10;99..", 30);
        LeastMissed x = Due.page("t10;");
        x.fault();
        due.is("4: it changes nothing", x.count(9), 4);
    }

    private static void faultAt(String text, int place) {
        due.is("4: fault() of " + text, Due.page(text).fault(), place);
    }

    private static void house() {
        for (String none : new String[] {"", "t", "t10", "t10;05", "t10,", "t10,c20", "t10,c20,", "t10,c20;",
            "t10,c20;0", "t10,c20;000", "t00,c20;00", "x10,c20;00", "T10,c20;00", "t10,c20,;00",
            "t10,t10,t10,t10,t10,t10,t10,t10", "t10,t10,t10,t10,t10,t10,t10;", "t10,t10,t10,t10,t10,t10,t10;9"}) {
            LeastMissed x = Due.page(none);
            due.is("5: house() of " + none, x.house(), STATE);
            due.is("5: the page stays: " + none, x.count(9), none.length());
            due.is("5: nothing was read: " + none, x.count(10), 0);
            due.is("5: no house: " + none, x.count(0), 0);
        }
        String text = "t10";
        for (int things = 2; things <= 7; things++) {
            text = text + ",c92";
            LeastMissed x = Due.page(text + ";47");
            due.is("5: house() of " + things, x.house(), things);
            due.is("5: count(0)", x.count(0), things);
            due.is("5: the page is empty then", x.count(9), 0);
            due.is("5: count(10)", x.count(10), 1);
            due.is("5: the debt", x.count(2), 47);
        }
        due.is("5: debt 00", Due.house("t10,c20;00").count(2), 0);
        due.is("5: debt 05", Due.house("t10,c20;05").count(2), 5);
        due.is("5: debt 50", Due.house("t10,c20;50").count(2), 50);
        due.is("5: debt 99", Due.house("t10,c20;99").count(2), 99);
    }

    private static void anotherHouse() {
        LeastMissed x = Due.house("t10,c20,u30;40");
        Due.takes(Due.days(Due.touches(x, 1, 2), 3), 2);
        x.see(0, 0, 0);
        x.image();
        due.is("5: a refused one", x.house(), STATE);
        due.is("5: leaves the days", x.count(3), 3);
        due.is("5: and what is taken", x.count(1), 2);
        due.is("5: and what is seen", x.count(8), 1);
        due.is("5: and the image", x.restore(), 3);
        Due.write(x, "s71,p86;12");
        due.is("5: another", x.house(), 2);
        int[] counts = {2, 0, 12, 0, 15, 4, 0, 0, 0, 0, 2, 0};
        for (int what = 0; what <= 11; what++) {
            due.is("5: then count(" + what + ")", x.count(what), counts[what]);
        }
        due.is("5: all looked at just now", x.thing(0, 3), 0);
        due.is("5: the old third is gone", x.thing(2, 0), UNKNOWN);
        due.is("5: so is the image", x.restore(), STATE);
    }

    private static void thing() {
        LeastMissed x = Due.house("t10,c29,u35,p48,s97;06");
        int[][] told = {{0, 1, 0, 0, 0}, {1, 2, 9, 0, 9}, {2, 3, 5, 0, 5}, {3, 4, 8, 0, 4}, {4, 9, 7, 0, 7}};
        for (int thing = 0; thing < told.length; thing++) {
            for (int what = 0; what < told[thing].length; what++) {
                due.is("6: thing(" + thing + ", " + what + ")", x.thing(thing, what), told[thing][what]);
            }
            due.is("6: not taken", x.thing(thing, 5), 0);
            due.is("6: all looks", x.thing(thing, 6), (1 << 21) - 1);
            due.is("6: no buyer", x.thing(thing, 8), NONE);
        }
        for (int what : new int[] {-1, 9, 10, LEAST, MOST}) {
            due.is("6: thing(0, " + what + ")", x.thing(0, what), OUTSIDE);
            due.is("6: UNKNOWN ahead of OUTSIDE", x.thing(5, what), UNKNOWN);
        }
        for (int thing : new int[] {-1, 5, 6, 7, LEAST, MOST}) {
            due.is("6: thing(" + thing + ", 0)", x.thing(thing, 0), UNKNOWN);
        }
        x.day();
        x.take();
        due.is("6: taken", x.thing(0, 5), 1);
        due.is("6: its since", x.thing(0, 3), 1);
        due.is("6: its buyer", x.thing(0, 8), 4);
        due.is("6: no house", new LeastMissed().thing(0, 9), UNKNOWN);
    }

    private static void missed() {
        LeastMissed x = Due.house("t19,c19,u19,p19,s19;99");
        int[][] byDay = {
            {9, 9, 9, 4, 9}, {8, 7, 9, 3, 5}, {7, 5, 9, 2, 1}, {6, 3, 9, 1, 0}, {5, 1, 9, 0, 0}, {4, 0, 9, 0, 0}
        };
        for (int day = 0; day < byDay.length; day++) {
            for (int thing = 0; thing < 5; thing++) {
                due.is("6: day " + day + " thing(" + thing + ", 4)", x.thing(thing, 4), byDay[day][thing]);
            }
            x.day();
        }
        x = Due.house("t19,p15;99");
        Due.days(x, 19);
        due.is("6: since 19", x.thing(0, 3), 19);
        x.day();
        due.is("6: since 20", x.thing(0, 3), 20);
        x.day();
        due.is("6: 20 at most", x.thing(0, 3), 20);
        due.is("6: half, rounded down", Due.house("t19,p15;99").thing(1, 4), 2);
    }

    private static void as() {
        LeastMissed x = Due.house("t11,c11,u11,p11,s11;11");
        int[][] is = {{1, 0, 0, 0, 0}, {1, 1, 0, 0, 0}, {1, 0, 1, 0, 0}, {1, 0, 0, 1, 0}, {1, 1, 0, 0, 1}};
        for (int thing = 0; thing < 5; thing++) {
            for (int kind = 0; kind < 5; kind++) {
                int want = is[thing][kind] == 1 ? thing : NONE;
                due.is("7: as(" + thing + ", " + kind + ")", x.as(thing, kind), want);
            }
        }
        for (int kind : new int[] {-1, 5, LEAST, MOST}) {
            due.is("7: as(0, " + kind + ")", x.as(0, kind), OUTSIDE);
            due.is("7: UNKNOWN ahead of OUTSIDE", x.as(-1, kind), UNKNOWN);
        }
        due.is("7: as(5, 0)", x.as(5, 0), UNKNOWN);
        due.is("7: no house", new LeastMissed().as(0, 0), UNKNOWN);
        x.take();
        due.is("7: a taken one", x.as(3, 3), 3);
    }
}
