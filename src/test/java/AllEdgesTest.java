import java.math.BigInteger;
import java.util.ArrayList;
import java.util.List;
import java.util.function.Consumer;

/** What an IMAGE keeps, and promises 22 to 25: each boundary by a test of its own. */
public final class AllEdgesTest {
    private static final int NONE = -1, OUTSIDE = -102, STATE = -103;
    private static final String TWO = "t15,c26;40";
    private static final String SEVEN = "t10,c29,u38,p47,s56,t65,c94;83";

    public static void main(String[] args) {
        Due due = new Due();
        tell(due);
        due.end();
    }

    static void tell(Due due) {
        kept(due);
        notKept(due);
        image(due);
        restore(due);
        restoreRefused(due);
        counts(due);
        countsOfLeft(due);
        countsOfCalls(due);
        countRefused(due);
        digest(due);
        digestOfPage(due);
        digestWraps(due);
    }

    /** A HOUSE that is changed behind its IMAGE is again as it was when restored. */
    private static void kept(Due due, String what, Consumer<LeastMissed> change, Consumer<LeastMissed> told) {
        due.sentence("Terms, IMAGE: keeps " + what, () -> {
            LeastMissed x = Due.takes(Due.days(Due.touches(Due.house(SEVEN), 6, 2), 3), 1);
            x.see(1, 1, 2);
            x.image();
            long before = x.digest();
            change.accept(x);
            due.is("digest() is another", x.digest() == before ? 1 : 0, 0);
            due.is("restore()", x.restore(), 3);
            told.accept(x);
            due.is("digest()", x.digest(), before);
        });
    }

    private static void kept(Due due) {
        kept(due, "KINDS", x -> x.change(6, 4, 9), x -> due.is("thing(6, 0)", x.thing(6, 0), 1));
        kept(due, "WORTH", x -> x.change(6, 1, 1), x -> due.is("thing(6, 1)", x.thing(6, 1), 9));
        kept(due, "LOOKS", x -> x.touch(6), x -> due.is("thing(6, 2)", x.thing(6, 2), 6));
        kept(due, "SINCE", x -> x.touch(6), x -> due.is("thing(6, 3)", x.thing(6, 3), 3));
        kept(due, "what is TAKEN", x -> x.take(), x -> {
            due.is("count(1)", x.count(1), 1);
            due.is("thing(0, 5)", x.thing(0, 5), 1);
            due.is("next(0)", x.thing(x.next(0), 5), 0);
        });
        kept(due, "what is not TAKEN", x -> x.redeem(0), x -> due.is("thing(0, 5)", x.thing(0, 5), 1));
        kept(due, "the DEBT", x -> x.borrow(1), x -> due.is("count(2)", x.count(2), 82));
        kept(due, "DAYS", x -> x.day(), x -> {
            due.is("count(3)", x.count(3), 3);
            due.is("thing(6, 3)", x.thing(6, 3), 3);
        });
        kept(due, "how often any was TOUCHED", x -> x.touch(1), x -> due.is("count(6)", x.count(6), 2));
        kept(due, "SEEN, when it is forgotten", x -> x.forget(), x -> {
            due.is("count(8)", x.count(8), 1);
            due.is("thing(1, 6)", x.thing(1, 6), 1 << 10);
        });
        kept(due, "SEEN, when more is", x -> x.see(1, 0, 3), x -> {
            due.is("count(8)", x.count(8), 1);
            due.is("thing(1, 6)", x.thing(1, 6), 1 << 10);
        });
        kept(due, "SEEN, when another is", AllEdgesTest::seeAnother, x -> {
            due.is("thing(1, 6)", x.thing(1, 6), 1 << 10);
            due.is("thing(2, 6)", x.thing(2, 6), (1 << 21) - 1);
        });
    }

    private static void seeAnother(LeastMissed x) {
        x.forget();
        x.see(2, 0, 8);
    }

    private static void notKept(Due due) {
        due.sentence("Terms, IMAGE: does not keep THE PAGE", () -> {
            LeastMissed x = Due.write(Due.house(TWO), "tc");
            x.image();
            x.letter('u');
            x.restore();
            due.is("count(9)", x.count(9), 3);
            x.blank();
            x.restore();
            due.is("count(9) then", x.count(9), 0);
        });
        due.sentence("Terms, IMAGE: does not keep how often sale() was done", () -> {
            LeastMissed x = Due.house(TWO);
            x.image();
            x.sale();
            x.restore();
            due.is("count(11)", x.count(11), 1);
        });
        due.sentence("Terms, IMAGE: does not keep how often a HOUSE was read", () -> {
            LeastMissed x = Due.reads(Due.house(TWO), TWO);
            x.image();
            x.restore();
            due.is("count(10)", x.count(10), 2);
        });
    }

    private static void image(Due due) {
        due.sentence("Promise 22: how many DAYS there were", () -> {
            LeastMissed x = Due.house(TWO);
            due.onlyTells("image() at first", x, 0, x::image);
            Due.days(x, 21);
            due.onlyTells("image() of DAY 21", x, 21, x::image);
        });
        due.sentence("Promise 22: one; the latest", () -> {
            LeastMissed x = Due.house(TWO);
            x.image();
            Due.days(x, 3);
            x.image();
            Due.days(x, 2);
            due.is("restore()", x.restore(), 3);
            due.is("restore() again", x.restore(), 3);
            x.touch(0);
            x.image();
            due.is("restore() of DAY 3, TOUCHED", x.restore(), 3);
            due.is("count(6)", x.count(6), 1);
        });
        due.sentence("Promise 22: STATE: no HOUSE", () -> {
            LeastMissed none = new LeastMissed();
            due.refused("image()", none, STATE, none::image);
            due.refused("restore() behind it", none, STATE, none::restore);
            Due.reads(none, TWO);
            due.refused("restore() with a HOUSE then", none, STATE, none::restore);
        });
    }

    private static void restore(Due due) {
        due.sentence("Promise 23: how many DAYS there were", () -> {
            LeastMissed x = Due.house(TWO);
            x.image();
            due.is("at first", Due.days(x, 5).restore(), 0);
            due.is("count(3)", x.count(3), 0);
            due.is("day()", x.day(), 1);
        });
        due.sentence("Promise 23: the IMAGE is kept on", () -> {
            LeastMissed x = Due.house(SEVEN);
            x.see(0, 0, 0);
            x.image();
            long before = x.digest();
            for (int i = 0; i < 3; i++) {
                x.touch(0);
                x.take();
                x.see(2, 0, 8);
                x.change(3, 0, 1);
                x.day();
                due.is("restore()", x.restore(), 0);
                due.is("digest()", x.digest(), before);
            }
        });
    }

    private static void restoreRefused(Due due) {
        due.sentence("Promise 23: STATE: none was kept", () -> {
            LeastMissed none = new LeastMissed();
            due.refused("no HOUSE, restore()", none, STATE, none::restore);
            LeastMissed x = Due.days(Due.house(TWO), 2);
            due.refused("restore()", x, STATE, x::restore);
        });
        due.sentence("Promise 23: STATE: there is another HOUSE since", () -> {
            LeastMissed x = Due.days(Due.house(TWO), 2);
            x.image();
            Due.days(Due.reads(x, SEVEN), 1);
            due.refused("restore()", x, STATE, x::restore);
            LeastMissed y = Due.house(TWO);
            y.image();
            Due.reads(y, TWO);
            due.refused("restore() with the same text", y, STATE, y::restore);
            due.is("image()", y.image(), 0);
            due.is("restore() of that", Due.days(y, 1).restore(), 0);
        });
        due.sentence("Promise 23: a refused house() is not another HOUSE", () -> {
            LeastMissed x = Due.days(Due.house(TWO), 2);
            x.image();
            due.is("house()", Due.write(x, "t15,c26;4").house(), STATE);
            due.is("restore()", x.restore(), 2);
        });
    }

    private static void counts(Due due) {
        due.sentence("Promise 24: 0 THINGS", () -> {
            due.is("none", new LeastMissed().count(0), 0);
            due.is("two", Due.house(TWO).count(0), 2);
            due.is("seven", Due.house(SEVEN).count(0), 7);
            due.is("of which all are TAKEN", Due.takes(Due.house(SEVEN), 7).count(0), 7);
        });
        due.sentence("Promise 24: 1 that are TAKEN", () -> {
            LeastMissed x = Due.house(SEVEN);
            for (int taken = 0; taken <= 7; taken++) {
                due.is("of " + taken, x.count(1), taken);
                x.take();
            }
        });
        due.sentence("Promise 24: 2 the DEBT", () -> {
            due.is("0", Due.house("t15,c26;00").count(2), 0);
            due.is("99", Due.house("t15,c26;99").count(2), 99);
        });
        due.sentence("Promise 24: 3 DAYS", () -> {
            LeastMissed x = Due.house(TWO);
            due.is("0", x.count(3), 0);
            due.is("40", Due.days(x, 40).count(3), 40);
        });
        due.sentence("Promise 24: 6 how often any was TOUCHED", () -> {
            LeastMissed x = Due.touches(Due.touches(Due.house(TWO), 0, 30), 1, 2);
            due.is("beyond 20 LOOKS", x.count(6), 32);
            x.touch(2);
            due.is("none that was refused", x.count(6), 32);
            x.siege(2, 0);
            x.odds(0, 2, 0);
            x.months(60, 3, 0);
            due.is("none that would be", x.count(6), 32);
        });
        due.sentence("Promise 24: 8 what is SEEN", () -> {
            LeastMissed x = Due.house(TWO);
            for (int seen = 0; seen <= 6; seen++) {
                due.is("of " + seen, x.count(8), seen);
                x.see(seen % 2, 0, 20);
            }
            due.is("6 at most", x.count(8), 6);
        });
    }

    private static void countsOfLeft(Due due) {
        due.sentence("Promise 24: 4 WORTH of those that are not TAKEN", () -> {
            due.is("none", new LeastMissed().count(4), 0);
            due.is("all", Due.house(SEVEN).count(4), 30);
            due.is("but one", Due.takes(Due.house(SEVEN), 1).count(4), 29);
            due.is("no more", Due.takes(Due.house(SEVEN), 7).count(4), 0);
        });
        due.sentence("Promise 24: 5 by how much these are MISSED, together", () -> {
            due.is("none", new LeastMissed().count(5), 0);
            due.is("all", Due.house(SEVEN).count(5), 35);
            due.is("but one of 3", Due.takes(Due.house(SEVEN), 2).count(5), 32);
            due.is("0 of each at least", Due.days(Due.house(SEVEN), 20).count(5), 8);
            due.is("no more", Due.takes(Due.house(SEVEN), 7).count(5), 0);
        });
        due.sentence("Promise 24: 7 WORTH of those that are TAKEN", () -> {
            due.is("none", new LeastMissed().count(7), 0);
            due.is("of none", Due.house(SEVEN).count(7), 0);
            due.is("of one", Due.takes(Due.house(SEVEN), 1).count(7), 1);
            due.is("of all", Due.takes(Due.house(SEVEN), 7).count(7), 30);
            due.is("more than the DEBT was", Due.takes(Due.house("t90,t19;01"), 1).count(7), 9);
        });
    }

    private static void countsOfCalls(Due due) {
        due.sentence("Promise 24: 9 letters of THE PAGE", () -> {
            LeastMissed x = Due.house(TWO);
            for (int letters = 0; letters <= 32; letters++) {
                due.is("of " + letters, x.count(9), letters);
                x.letter('t');
            }
            due.is("32 at most", x.count(9), 32);
        });
        due.sentence("Promise 24: 10 how often a HOUSE was read", () -> {
            LeastMissed x = new LeastMissed();
            x.house();
            due.is("none", x.count(10), 0);
            for (int times = 1; times <= 5; times++) {
                due.is("of " + times, Due.reads(x, times % 2 == 0 ? SEVEN : TWO).count(10), times);
                x.house();
                due.is("none that was refused, of " + times, x.count(10), times);
            }
        });
        due.sentence("Promise 24: 11 how often sale() was done", () -> {
            LeastMissed x = Due.house(TWO);
            for (int times = 0; times <= 16; times++) {
                due.is("of " + times, x.count(11), times);
                x.sale();
            }
            due.is("16 at most", x.count(11), 16);
            LeastMissed y = Due.takes(Due.house(TWO), 1);
            y.thing(0, 8);
            y.digest();
            due.is("by sale() alone", y.count(11), 0);
        });
    }

    private static void countRefused(Due due) {
        due.sentence("Promise 24: OUTSIDE", () -> {
            LeastMissed none = new LeastMissed();
            LeastMissed x = Due.takes(Due.house(SEVEN), 1);
            due.outside("no HOUSE, count(#)", none, 0, 11, OUTSIDE, none::count);
            due.outside("count(#)", x, 0, 11, OUTSIDE, x::count);
        });
        due.sentence("Promise 24: count() changes nothing, and needs no HOUSE", () -> {
            LeastMissed none = new LeastMissed();
            LeastMissed x = Due.takes(Due.house(SEVEN), 1);
            for (int what = 0; what <= 11; what++) {
                int asked = what;
                due.onlyTells("no HOUSE, count(" + what + ")", none, 0, () -> none.count(asked));
                due.onlyTells("count(" + what + ")", x, () -> x.count(asked));
            }
        });
    }

    /** h by its numbers, in as many bits as it takes, and then the lowest 64 of them. */
    private static long digestBy(List<Integer> numbers) {
        BigInteger h = BigInteger.valueOf(1259);
        for (int number : numbers) {
            h = h.multiply(BigInteger.valueOf(31)).add(BigInteger.valueOf(number));
        }
        return h.longValue();
    }

    private static List<Integer> numbersOf(LeastMissed x, String page) {
        List<Integer> numbers = new ArrayList<>();
        for (int thing = 0; thing < x.count(0); thing++) {
            for (int what = 0; what <= 7; what++) {
                numbers.add(x.thing(thing, what));
            }
        }
        if (x.count(0) > 0) {
            numbers.addAll(List.of(x.next(0), x.next(5), x.siege(2, 0), x.siege(2, 1), x.siege(2, 10), x.siege(2, 11)));
            numbers.addAll(List.of(x.makeUp(0), x.makeUp(1), x.makeUp(2)));
        }
        for (char letter : page.toCharArray()) {
            numbers.add((int) letter);
        }
        for (int count : Due.counts(x)) {
            numbers.add(count);
        }
        return numbers;
    }

    private static void digest(Due due) {
        due.sentence("Promise 25: no HOUSE, and an empty PAGE", () -> {
            long twelveNoughts = BigInteger.valueOf(31).pow(12).multiply(BigInteger.valueOf(1259)).longValue();
            due.is("digest()", new LeastMissed().digest(), twelveNoughts);
            LeastMissed x = Due.page("tc");
            x.blank();
            due.is("digest() behind blank()", x.digest(), twelveNoughts);
        });
        due.sentence("Promise 25: with a HOUSE, and an empty PAGE", () -> {
            // 2 1 1 0 1 0 2097151 0 twice, -1 -1 0 4 0 0 0 0 0, and 2 0 0 0 2 2 0 0 0 0 1 0.
            due.is("digest() by hand", Due.house("u11,u11;00").digest(), 7951223014725402994L);
            LeastMissed x = Due.house(SEVEN);
            due.is("digest() of seven", x.digest(), digestBy(numbersOf(x, "")));
            // These are NEXT in turn behind 5 DAYS, and not behind 4, or 6.
            for (String text : new String[] {"t16,u11;99", "u11,t16;99"}) {
                LeastMissed y = Due.house(text);
                due.is("digest() of " + text, y.digest(), digestBy(numbersOf(y, "")));
            }
        });
        due.sentence("Promise 25: what is NONE is in it, too", () -> {
            LeastMissed x = Due.takes(Due.house("t15,c16;99"), 2);
            x.see(0, 0, 1);
            x.see(0, 0, 2);
            due.is("thing(0, 7)", x.thing(0, 7), NONE);
            due.is("next(0)", x.next(0), NONE);
            due.is("makeUp(2)", x.makeUp(2), NONE);
            due.is("digest()", x.digest(), digestBy(numbersOf(x, "")));
        });
        due.sentence("Promise 25: digest() changes nothing", () -> {
            LeastMissed x = Due.write(Due.takes(Due.days(Due.house(SEVEN), 1), 2), "t1");
            long first = x.digest();
            due.is("digest() again", x.digest(), first);
            due.is("count(11)", x.count(11), 0);
        });
    }

    private static void digestOfPage(Due due) {
        due.sentence("Promise 25: letters of THE PAGE, in order, without a HOUSE", () -> {
            due.is("one, 1", Due.page("\u0001").digest(), digestBy(numbersOf(Due.page("t"), "\u0001")));
            due.is("one, 126", Due.page("~").digest(), digestBy(numbersOf(Due.page("t"), "~")));
            due.is("two", Due.page("tc").digest(), digestBy(numbersOf(Due.page("tc"), "tc")));
            due.is("two in another order is another", Due.page("ct").digest() == Due.page("tc").digest() ? 1 : 0, 0);
            String full = SEVEN + "~!";
            due.is("a full PAGE", Due.page(full).digest(), digestBy(numbersOf(Due.page(full), full)));
        });
        due.sentence("Promise 25: letters of THE PAGE, with a HOUSE", () -> {
            String full = SEVEN + "~!";
            for (String text : new String[] {"t", "tc", full}) {
                LeastMissed x = Due.write(Due.house(TWO), text);
                due.is("digest() with " + text, x.digest(), digestBy(numbersOf(x, text)));
            }
        });
    }

    private static void digestWraps(Due due) {
        due.sentence("Promise 25: as longs, wrapping", () -> {
            // 1259 times 31 to the 12 is below 2 to the 71: it has wrapped even for a new object.
            due.is("a new one", new LeastMissed().digest(), digestBy(numbersOf(new LeastMissed(), "")));
            LeastMissed x = Due.write(Due.takes(Due.days(Due.house(SEVEN), 4), 3), "~~~~");
            due.is("seven, of which three are TAKEN", x.digest(), digestBy(numbersOf(x, "~~~~")));
            int below = 0;
            for (int day = 0; day < 20; day++) {
                x.day();
                below += x.digest() < 0 ? 1 : 0;
                due.is("DAY " + x.count(3), x.digest(), digestBy(numbersOf(x, "~~~~")));
            }
            due.is("some are below 0", below > 0 && below < 20 ? 1 : 0, 1);
        });
    }
}
