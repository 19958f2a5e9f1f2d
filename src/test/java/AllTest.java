/** Promises 22 to 25: the image, what is counted, the digest. */
public final class AllTest {
    private static final int OUTSIDE = -102, STATE = -103;
    private static final Due due = new Due();

    public static void main(String[] args) {
        image();
        restoreAll();
        restoreNotAll();
        restoreRefused();
        count();
        digest();
        digestIsOfAll();
        refusalsChangeNothing();
        due.end();
    }

    private static void image() {
        due.is("22: no house", new LeastMissed().image(), STATE);
        LeastMissed x = Due.house("t15,c26;40");
        due.is("22: day 0", x.image(), 0);
        Due.days(x, 3);
        due.is("22: day 3", x.image(), 3);
        Due.days(x, 2);
        due.is("22: the latest", x.restore(), 3);
    }

    private static void restoreAll() {
        LeastMissed x = Due.house("t15,c26,u37;40");
        Due.takes(Due.days(Due.touches(x, 1, 2), 2), 1);
        x.see(1, 3, 2);
        long before = x.digest();
        x.image();
        due.is("22: it changes nothing", x.digest(), before);
        x.forget();
        x.see(2, 1, 1);
        x.change(0, 4, 9);
        x.change(2, 3, 1);
        x.redeem(0);
        x.borrow(7);
        Due.touches(x, 0, 3);
        Due.takes(Due.days(x, 4), 2);
        due.is("23: restore()", x.restore(), 2);
        due.is("23: all as it was", x.digest(), before);
        due.is("23: what is seen too", x.thing(1, 6), 1 << 12);
        x.day();
        x.touch(1);
        due.is("23: once more", x.restore(), 2);
        due.is("23: the image is kept", x.digest(), before);
        x.forget();
        x.restore();
        due.is("23: how much is seen", x.count(8), 1);
    }

    private static void restoreNotAll() {
        LeastMissed x = Due.house("t15,c26;40");
        Due.write(x, "tc");
        x.image();
        x.letter('u');
        x.sale();
        x.restore();
        due.is("23: not the page", x.count(9), 3);
        due.is("23: not the sales", x.count(11), 1);
        due.is("23: not how many were read", x.count(10), 1);
    }

    private static void restoreRefused() {
        due.is("23: no house", new LeastMissed().restore(), STATE);
        LeastMissed x = Due.house("t15,c26;40");
        due.is("23: none was kept", x.restore(), STATE);
        x.day();
        x.image();
        Due.write(x, "t15,c26;4");
        due.is("23: no other house yet", x.house(), STATE);
        due.is("23: so it goes on", x.restore(), 1);
        x.letter('0');
        x.house();
        due.is("23: another house since", x.restore(), STATE);
        due.is("23: it changes nothing", x.count(3), 0);
        x.image();
        x.day();
        due.is("23: an image of that one", x.restore(), 0);
    }

    private static void count() {
        LeastMissed x = Due.house("t15,c26,u37;40");
        Due.takes(Due.days(Due.touches(x, 1, 2), 2), 1);
        x.see(1, 3, 2);
        x.see(1, 3, 2);
        x.sale();
        Due.write(x, "tcups");
        int[] counts = {3, 1, 39, 2, 5, 11, 2, 1, 2, 5, 1, 1};
        for (int what = 0; what < counts.length; what++) {
            due.is("24: count(" + what + ")", x.count(what), counts[what]);
        }
        for (int what : new int[] {-1, 12, 13, Integer.MIN_VALUE, Integer.MAX_VALUE}) {
            due.is("24: count(" + what + ")", x.count(what), OUTSIDE);
            due.is("24: no house", new LeastMissed().count(what), OUTSIDE);
        }
        x.blank();
        Due.write(x, "t15,c26,u37;40");
        x.house();
        due.is("24: two were read", x.count(10), 2);
    }

    private static void digest() {
        LeastMissed x = new LeastMissed();
        due.is("25: nothing", x.digest(), digestOf(x, ""));
        Due.write(x, "ab;");
        due.is("25: a page", x.digest(), digestOf(x, "ab;"));
        x.blank();
        Due.write(x, "t54,c38,u25,p79,s66,t91,u12;47");
        x.house();
        due.is("25: a house", x.digest(), digestOf(x, ""));
        Due.takes(Due.days(Due.touches(x, 0, 1), 2), 2);
        x.see(1, 0, 3);
        x.sale();
        Due.write(x, "~!");
        due.is("25: a house and a page", x.digest(), digestOf(x, "~!"));
        for (String text : new String[] {"u15,s16;99", "t17,u12;99", "u12,t17;99"}) {
            x = Due.house(text);
            due.is("25: next of " + text, x.digest(), digestOf(x, ""));
        }
        // By hand, from 2 1 1 0 1 0 2097151 0 twice, -1 -1 0 4 0 0 0 0 0, and 2 0 0 0 2 2 0 0 0 0 1 0.
        due.is("25: by hand", Due.house("u11,u11;00").digest(), 7951223014725402994L);
    }

    private static long digestOf(LeastMissed x, String page) {
        long h = 1259;
        for (int thing = 0; thing < x.count(0); thing++) {
            for (int what = 0; what < 8; what++) {
                h = h * 31 + x.thing(thing, what);
            }
        }
        if (x.count(0) > 0) {
            int[] wouldBe = {x.next(0), x.next(5), x.siege(2, 0), x.siege(2, 1), x.siege(2, 10), x.siege(2, 11),
                x.makeUp(0), x.makeUp(1), x.makeUp(2)};
            for (int number : wouldBe) {
                h = h * 31 + number;
            }
        }
        for (char letter : page.toCharArray()) {
            h = h * 31 + letter;
        }
        for (int what = 0; what < 12; what++) {
            h = h * 31 + x.count(what);
        }
        return h;
    }

    private static void digestIsOfAll() {
        LeastMissed x = Due.house("t15,c26;40");
        long before = x.digest();
        due.is("25: it changes nothing", x.digest(), before);
        x.sale();
        due.is("25: the sales are its last number", x.digest(), before + 1);
        x.letter('t');
        due.is("25: the page is in it", x.digest() == before + 1 ? 1 : 0, 0);
    }

    private static void refusalsChangeNothing() {
        LeastMissed x = Due.takes(Due.days(Due.house("t90,c26,u37;99"), 1), 1);
        x.borrow(9);
        for (int i = 0; i < 6; i++) {
            x.see(1, 3, i);
        }
        Due.write(x, "................................");
        long before = x.digest();
        x.letter('t');
        x.letter(0);
        x.house();
        x.thing(9, 9);
        x.as(0, 9);
        x.touch(0);
        x.touch(9);
        x.redeem(0);
        x.redeem(1);
        x.borrow(1);
        x.borrow(0);
        x.change(0, 5, 1);
        x.change(0, 1, 10);
        x.next(21);
        x.siege(5, 0);
        x.makeUp(3);
        x.odds(0, 1, 0);
        x.see(1, 0, 0);
        x.months(0, 0, 0);
        x.restore();
        x.count(12);
        due.is("25: refusals change nothing", x.digest(), before);
    }
}
