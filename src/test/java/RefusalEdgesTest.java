import java.util.ArrayList;
import java.util.List;

/** Refusals change nothing: for each call that can be refused, in each way, by a test of its own. */
public final class RefusalEdgesTest {
    private static final int UNKNOWN = -101, OUTSIDE = -102, STATE = -103, FULL = -104;
    private static final int LEAST = Integer.MIN_VALUE, MOST = Integer.MAX_VALUE;
    private static final String SEVEN = "t10,c29,u38,p47,s56,t65,c94;83";

    private interface State {
        LeastMissed make();
    }

    private interface Ask {
        int of(LeastMissed x);
    }

    public static void main(String[] args) {
        Due due = new Due();
        tell(due);
        due.end();
    }

    static void tell(Due due) {
        ofTheHouse(due);
        ofTouchAndDay(due);
        ofTakeAndRedeem(due);
        ofBorrowAndChange(due);
        ofNextAndSiege(due);
        ofMakeUpAndOdds(due);
        ofSaleAndSee(due);
        ofMonths(due);
        ofTheImage(due);
        ofCount(due);
    }

    /** No HOUSE, and letters on THE PAGE that are none yet. */
    private static LeastMissed none() {
        return Due.page("t10,c2");
    }

    /** All that can be full is: THE PAGE, the DEBT, what is SEEN, the sales; two are TAKEN; the IMAGE is of DAY 2. */
    private static LeastMissed full() {
        LeastMissed x = Due.days(Due.touches(Due.house(SEVEN), 6, 2), 2);
        x.see(1, 1, 2);
        x.image();
        Due.takes(Due.days(x, 1), 2);
        for (int i = 0; i < 5; i++) {
            x.see(2, i, 8);
        }
        for (int i = 0; i < 16; i++) {
            x.sale();
        }
        x.borrow(99 - x.count(2));
        return Due.write(x, SEVEN + "00");
    }

    /** 999 DAYS, and 999 TOUCHES. */
    private static LeastMissed tired() {
        LeastMissed x = Due.touches(Due.days(Due.house(SEVEN), 999), 1, 999);
        x.image();
        return x;
    }

    private static LeastMissed owingNothing() {
        LeastMissed x = Due.takes(Due.days(Due.house("t90,u35;08"), 1), 1);
        x.image();
        return x;
    }

    private static LeastMissed havingNothing() {
        LeastMissed x = Due.takes(Due.days(Due.house("t10,u35;80"), 1), 2);
        x.image();
        return x;
    }

    /** A HOUSE of which no IMAGE was kept: that was of another. */
    private static LeastMissed unkept() {
        LeastMissed x = Due.days(Due.house(SEVEN), 3);
        x.image();
        return Due.days(Due.reads(x, "t10,u35;80"), 1);
    }

    /** Refused, and then all is as with one that was not asked: also behind the IMAGE. */
    private static void same(Due due, String call, State state, int refusal, Ask ask) {
        LeastMissed asked = state.make();
        LeastMissed other = state.make();
        due.refused(call, asked, refusal, () -> ask.of(asked));
        sameAnswers(due, call, asked, other);
        due.is(call + ", then restore()", asked.restore(), other.restore());
        sameAnswers(due, call + ", then restore()", asked, other);
    }

    private static void sameAnswers(Due due, String call, LeastMissed asked, LeastMissed other) {
        List<Long> got = answers(asked);
        List<Long> want = answers(other);
        for (int i = 0; i < want.size(); i++) {
            due.is(call + ", then answer " + i, got.get(i), want.get(i));
        }
    }

    private static List<Long> answers(LeastMissed x) {
        List<Long> answers = new ArrayList<>();
        answers.add(x.digest());
        answers.add((long) x.fault());
        for (int count : Due.counts(x)) {
            answers.add((long) count);
        }
        for (int thing = 0; thing < x.count(0); thing++) {
            for (int what = 0; what <= 8; what++) {
                answers.add((long) x.thing(thing, what));
            }
        }
        for (int days = 0; days <= 20; days++) {
            answers.add((long) x.next(days));
        }
        answers.add((long) x.months(60, 7, 0));
        answers.add((long) x.months(60, 7, 1));
        return answers;
    }

    private static void ofTheHouse(Due due) {
        due.sentence("Terms, Refusals: letter() changes nothing then", () -> {
            for (int code : new int[] {0, 127, LEAST, MOST}) {
                same(due, "letter(" + code + ")", RefusalEdgesTest::none, OUTSIDE, x -> x.letter(code));
                same(due, "letter(" + code + ") on a full PAGE", RefusalEdgesTest::full, OUTSIDE, x -> x.letter(code));
            }
            same(due, "letter('t')", RefusalEdgesTest::full, FULL, x -> x.letter('t'));
        });
        due.sentence("Terms, Refusals: house() changes nothing then", () -> {
            same(due, "no HOUSE yet, house()", RefusalEdgesTest::none, STATE, LeastMissed::house);
            same(due, "a letter too many, house()", RefusalEdgesTest::full, STATE, LeastMissed::house);
            same(due, "an empty PAGE, house()", RefusalEdgesTest::tired, STATE, LeastMissed::house);
        });
        due.sentence("Terms, Refusals: thing() changes nothing then", () -> {
            same(due, "no HOUSE, thing(0, 0)", RefusalEdgesTest::none, UNKNOWN, x -> x.thing(0, 0));
            same(due, "thing(7, 8)", RefusalEdgesTest::full, UNKNOWN, x -> x.thing(7, 8));
            same(due, "thing(0, 9)", RefusalEdgesTest::full, OUTSIDE, x -> x.thing(0, 9));
        });
        due.sentence("Terms, Refusals: as() changes nothing then", () -> {
            same(due, "no HOUSE, as(0, 0)", RefusalEdgesTest::none, UNKNOWN, x -> x.as(0, 0));
            same(due, "as(7, 0)", RefusalEdgesTest::full, UNKNOWN, x -> x.as(7, 0));
            same(due, "as(0, 5)", RefusalEdgesTest::full, OUTSIDE, x -> x.as(0, 5));
        });
    }

    private static void ofTouchAndDay(Due due) {
        due.sentence("Terms, Refusals: touch() changes nothing then", () -> {
            same(due, "no HOUSE, touch(0)", RefusalEdgesTest::none, UNKNOWN, x -> x.touch(0));
            same(due, "touch(7)", RefusalEdgesTest::full, UNKNOWN, x -> x.touch(7));
            same(due, "touch(0), TAKEN", RefusalEdgesTest::full, STATE, x -> x.touch(0));
            same(due, "touch(0), the 1000th", RefusalEdgesTest::tired, FULL, x -> x.touch(0));
        });
        due.sentence("Terms, Refusals: day() changes nothing then", () -> {
            same(due, "no HOUSE, day()", RefusalEdgesTest::none, STATE, LeastMissed::day);
            same(due, "the 1000th day()", RefusalEdgesTest::tired, FULL, LeastMissed::day);
        });
    }

    private static void ofTakeAndRedeem(Due due) {
        due.sentence("Terms, Refusals: take() changes nothing then", () -> {
            same(due, "no HOUSE, take()", RefusalEdgesTest::none, STATE, LeastMissed::take);
            same(due, "no DEBT, take()", RefusalEdgesTest::owingNothing, STATE, LeastMissed::take);
            same(due, "all TAKEN, take()", RefusalEdgesTest::havingNothing, STATE, LeastMissed::take);
        });
        due.sentence("Terms, Refusals: redeem() changes nothing then", () -> {
            same(due, "no HOUSE, redeem(0)", RefusalEdgesTest::none, UNKNOWN, x -> x.redeem(0));
            same(due, "redeem(7)", RefusalEdgesTest::full, UNKNOWN, x -> x.redeem(7));
            same(due, "redeem(6), not TAKEN", RefusalEdgesTest::full, STATE, x -> x.redeem(6));
            same(due, "redeem(1), not TAKEN", RefusalEdgesTest::owingNothing, STATE, x -> x.redeem(1));
            same(due, "redeem(0) at 99", RefusalEdgesTest::full, FULL, x -> x.redeem(0));
        });
    }

    private static void ofBorrowAndChange(Due due) {
        due.sentence("Terms, Refusals: borrow() changes nothing then", () -> {
            for (int more : new int[] {0, 51, LEAST, MOST}) {
                String call = "borrow(" + more + ")";
                same(due, "no HOUSE, " + call, RefusalEdgesTest::none, OUTSIDE, x -> x.borrow(more));
                same(due, call, RefusalEdgesTest::owingNothing, OUTSIDE, x -> x.borrow(more));
            }
            same(due, "no HOUSE, borrow(1)", RefusalEdgesTest::none, STATE, x -> x.borrow(1));
            same(due, "borrow(1) at 99", RefusalEdgesTest::full, FULL, x -> x.borrow(1));
            same(due, "borrow(50) at 99", RefusalEdgesTest::full, FULL, x -> x.borrow(50));
        });
        due.sentence("Terms, Refusals: change() changes nothing then", () -> {
            same(due, "no HOUSE, change(0, 0, 1)", RefusalEdgesTest::none, UNKNOWN, x -> x.change(0, 0, 1));
            same(due, "change(7, 0, 1)", RefusalEdgesTest::full, UNKNOWN, x -> x.change(7, 0, 1));
            same(due, "change(5, 5, 9)", RefusalEdgesTest::full, OUTSIDE, x -> x.change(5, 5, 9));
            same(due, "change(5, -1, 9)", RefusalEdgesTest::full, OUTSIDE, x -> x.change(5, -1, 9));
            same(due, "change(5, 4, 0)", RefusalEdgesTest::full, OUTSIDE, x -> x.change(5, 4, 0));
            same(due, "change(5, 4, 10)", RefusalEdgesTest::full, OUTSIDE, x -> x.change(5, 4, 10));
        });
    }

    private static void ofNextAndSiege(Due due) {
        due.sentence("Terms, Refusals: next() changes nothing then", () -> {
            same(due, "no HOUSE, next(0)", RefusalEdgesTest::none, STATE, x -> x.next(0));
            same(due, "next(-1)", RefusalEdgesTest::full, OUTSIDE, x -> x.next(-1));
            same(due, "next(21)", RefusalEdgesTest::full, OUTSIDE, x -> x.next(21));
        });
        due.sentence("Terms, Refusals: siege() changes nothing then", () -> {
            same(due, "no HOUSE, siege(1, 0)", RefusalEdgesTest::none, STATE, x -> x.siege(1, 0));
            same(due, "siege(0, 0)", RefusalEdgesTest::full, OUTSIDE, x -> x.siege(0, 0));
            same(due, "siege(5, 0)", RefusalEdgesTest::full, OUTSIDE, x -> x.siege(5, 0));
            same(due, "siege(4, 14)", RefusalEdgesTest::full, OUTSIDE, x -> x.siege(4, 14));
        });
    }

    private static void ofMakeUpAndOdds(Due due) {
        due.sentence("Terms, Refusals: makeUp() changes nothing then", () -> {
            same(due, "no HOUSE, makeUp(0)", RefusalEdgesTest::none, STATE, x -> x.makeUp(0));
            same(due, "makeUp(-1)", RefusalEdgesTest::full, OUTSIDE, x -> x.makeUp(-1));
            same(due, "makeUp(3)", RefusalEdgesTest::full, OUTSIDE, x -> x.makeUp(3));
        });
        due.sentence("Terms, Refusals: odds() changes nothing then", () -> {
            same(due, "no HOUSE, odds(0, 1, 0)", RefusalEdgesTest::none, UNKNOWN, x -> x.odds(0, 1, 0));
            same(due, "odds(7, 1, 0)", RefusalEdgesTest::full, UNKNOWN, x -> x.odds(7, 1, 0));
            same(due, "odds(6, 4, 0)", RefusalEdgesTest::full, OUTSIDE, x -> x.odds(6, 4, 0));
            same(due, "odds(6, 3, 2)", RefusalEdgesTest::full, OUTSIDE, x -> x.odds(6, 3, 2));
            same(due, "odds(0, 3, 1), TAKEN", RefusalEdgesTest::full, STATE, x -> x.odds(0, 3, 1));
        });
    }

    private static void ofSaleAndSee(Due due) {
        due.sentence("Terms, Refusals: sale() changes nothing then", () -> {
            same(due, "no HOUSE, sale()", RefusalEdgesTest::none, STATE, LeastMissed::sale);
            same(due, "the 17th sale()", RefusalEdgesTest::full, STATE, LeastMissed::sale);
        });
        due.sentence("Terms, Refusals: see() changes nothing then", () -> {
            same(due, "no HOUSE, see(0, 0, 0)", RefusalEdgesTest::none, UNKNOWN, x -> x.see(0, 0, 0));
            same(due, "see(7, 0, 0)", RefusalEdgesTest::tired, UNKNOWN, x -> x.see(7, 0, 0));
            same(due, "see(0, -1, 0)", RefusalEdgesTest::tired, OUTSIDE, x -> x.see(0, -1, 0));
            same(due, "see(0, 10, 0)", RefusalEdgesTest::tired, OUTSIDE, x -> x.see(0, 10, 0));
            same(due, "see(0, 9, 21)", RefusalEdgesTest::tired, OUTSIDE, x -> x.see(0, 9, 21));
            same(due, "the 7th see(2, 0, 3)", RefusalEdgesTest::full, FULL, x -> x.see(2, 0, 3));
        });
    }

    private static void ofMonths(Due due) {
        due.sentence("Terms, Refusals: months() changes nothing then", () -> {
            same(due, "no HOUSE, months(1, 0, 0)", RefusalEdgesTest::none, STATE, x -> x.months(1, 0, 0));
            same(due, "months(0, 0, 0)", RefusalEdgesTest::full, OUTSIDE, x -> x.months(0, 0, 0));
            same(due, "months(61, 0, 0)", RefusalEdgesTest::full, OUTSIDE, x -> x.months(61, 0, 0));
            same(due, "months(60, -1, 0)", RefusalEdgesTest::full, OUTSIDE, x -> x.months(60, -1, 0));
            same(due, "months(60, 0, 3)", RefusalEdgesTest::full, OUTSIDE, x -> x.months(60, 0, 3));
        });
    }

    private static void ofTheImage(Due due) {
        due.sentence("Terms, Refusals: image() changes nothing then", () ->
            same(due, "no HOUSE, image()", RefusalEdgesTest::none, STATE, LeastMissed::image));
        due.sentence("Terms, Refusals: restore() changes nothing then", () -> {
            same(due, "no HOUSE, restore()", RefusalEdgesTest::none, STATE, LeastMissed::restore);
            same(due, "another HOUSE since, restore()", RefusalEdgesTest::unkept, STATE, LeastMissed::restore);
        });
    }

    private static void ofCount(Due due) {
        due.sentence("Terms, Refusals: count() changes nothing then", () -> {
            same(due, "no HOUSE, count(12)", RefusalEdgesTest::none, OUTSIDE, x -> x.count(12));
            same(due, "count(-1)", RefusalEdgesTest::full, OUTSIDE, x -> x.count(-1));
            same(due, "count(12)", RefusalEdgesTest::full, OUTSIDE, x -> x.count(12));
        });
    }
}
