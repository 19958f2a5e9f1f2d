/** What a house is, and promises 1 to 7: each sentence that names a boundary, by a test of its own. */
public final class HouseEdgesTest {
    private static final int NONE = -1, UNKNOWN = -101, OUTSIDE = -102, STATE = -103, FULL = -104;
    private static final String TWO = "t19,p90;47";
    private static final String SEVEN = "t10,c29,u38,p47,s56,t65,c94;83";
    private static final String FULL_PAGE = "tttttttttttttttttttttttttttttttt";

    public static void main(String[] args) {
        Due due = new Due();
        tell(due);
        due.end();
    }

    static void tell(Due due) {
        things(due);
        signs(due);
        debt(due);
        calls(due);
        newObject(due);
        letter(due);
        blank(due);
        fault(due);
        house(due);
        anotherHouse(due);
        notGone(due);
        thing(due);
        thingRefused(due);
        as(due);
    }

    private static void things(Due due) {
        due.sentence("What it is: two THINGS at least", () -> {
            due.is("fault() with ';' behind one", Due.page("t10;").fault(), 3);
            due.is("house() of one", Due.page("t10;05").house(), STATE);
            due.is("fault() with ';' behind two", Due.page("t10,c20;").fault(), 8);
            due.is("house() of two", Due.page("t10,c20;05").house(), 2);
        });
        due.sentence("What it is: seven THINGS at most", () -> {
            String seven = SEVEN.substring(0, 27);
            due.is("fault() with ',' behind six", Due.page(SEVEN.substring(0, 24)).fault(), 24);
            due.is("fault() with ',' behind seven", Due.page(seven + ",").fault(), 27);
            due.is("fault() of eight", Due.page(seven + ",t11").fault(), 27);
            due.is("house() of eight", Due.page(seven + ",t11;").house(), STATE);
            due.is("fault() of seven", Due.page(SEVEN).fault(), 30);
            due.is("house() of seven", Due.page(SEVEN).house(), 7);
        });
        due.sentence("What it is: THINGS are numbered from 0", () -> {
            LeastMissed x = Due.house(SEVEN);
            int[][] kindWorthLooks = {{0, 1, 0}, {1, 2, 9}, {2, 3, 8}, {3, 4, 7}, {4, 5, 6}, {0, 6, 5}, {1, 9, 4}};
            for (int thing = 0; thing < 7; thing++) {
                for (int what = 0; what < 3; what++) {
                    due.is("thing(" + thing + ", " + what + ")", x.thing(thing, what), kindWorthLooks[thing][what]);
                }
            }
        });
    }

    private static void signs(Due due) {
        due.sentence("What it is: ',' between THINGS, ';' behind the last", () -> {
            onlyThese(due, "t10", ",");
            for (int things = 2; things < 7; things++) {
                onlyThese(due, SEVEN.substring(0, 4 * things - 1), ",;");
            }
            onlyThese(due, SEVEN.substring(0, 27), ";");
        });
        due.sentence("What it is: a letter, the KIND", () -> {
            onlyThese(due, "", "tcups");
            onlyThese(due, "t10,", "tcups");
            onlyThese(due, SEVEN.substring(0, 24), "tcups");
        });
        due.sentence("What it is: its WORTH (1 to 9)", () -> {
            onlyThese(due, "t", "123456789");
            onlyThese(due, SEVEN.substring(0, 25), "123456789");
            due.is("WORTH 1", Due.house("t19,c91;05").thing(0, 1), 1);
            due.is("WORTH 9", Due.house("t19,c91;05").thing(1, 1), 9);
        });
        due.sentence("What it is: its LOOKS (0 to 9)", () -> {
            onlyThese(due, "t1", "0123456789");
            onlyThese(due, SEVEN.substring(0, 26), "0123456789");
            due.is("LOOKS 0", Due.house("t10,c99;05").thing(0, 2), 0);
            due.is("LOOKS 9", Due.house("t10,c99;05").thing(1, 2), 9);
        });
    }

    /** Of all letters just these fit behind the text. */
    private static void onlyThese(Due due, String text, String fitting) {
        for (int code = 1; code <= 126; code++) {
            LeastMissed x = Due.page(text);
            x.letter(code);
            int fits = fitting.indexOf(code) >= 0 ? 1 : 0;
            due.is("fault() of " + text + " and " + code, x.fault(), text.length() + fits);
        }
    }

    private static void debt(Due due) {
        due.sentence("What it is: two digits, the DEBT", () -> {
            onlyThese(due, "t10,c20;", "0123456789");
            onlyThese(due, "t10,c20;4", "0123456789");
            onlyThese(due, "t10,c20;47", "");
            onlyThese(due, SEVEN, "");
            due.is("house() with one digit", Due.page("t10,c20;4").house(), STATE);
            due.is("house() with three", Due.page("t10,c20;470").house(), STATE);
        });
        due.sentence("What it is: the DEBT (its tens, its ones)", () -> {
            for (int debt : new int[] {0, 1, 9, 10, 19, 90, 98, 99}) {
                LeastMissed x = Due.house("t10,c20;" + debt / 10 + debt % 10);
                due.is("count(2) of DEBT " + debt, x.count(2), debt);
            }
        });
    }

    private static void calls(Due due) {
        due.sentence("What it is: 512 calls after it has been made", () -> {
            LeastMissed x = Due.house("t10,c20;05");
            for (int call = 12; call <= 512; call++) {
                due.is("call " + call + ", day()", x.day(), call - 11);
            }
            x = Due.house("t10,c20;05");
            for (int call = 12; call < 512; call++) {
                due.is("call " + call + ", touch(0)", x.touch(0), Math.min(20, call - 11));
            }
            due.is("call 512, count(6)", x.count(6), 500);
        });
    }

    private static void newObject(Due due) {
        due.sentence("Promise 1: no HOUSE", () -> {
            LeastMissed x = new LeastMissed();
            for (int what = 0; what <= 11; what++) {
                due.is("count(" + what + ")", x.count(what), 0);
            }
            for (int thing = 0; thing < 7; thing++) {
                due.is("thing(" + thing + ", 0)", x.thing(thing, 0), UNKNOWN);
            }
            due.is("day()", x.day(), STATE);
            due.is("image()", x.image(), STATE);
            due.is("fault()", x.fault(), 0);
        });
    }

    private static void letter(Due due) {
        due.sentence("Promise 2: how many THE PAGE has", () -> {
            LeastMissed x = new LeastMissed();
            for (int i = 1; i <= 32; i++) {
                due.is("letter " + i, x.letter(60 + i), i);
            }
        });
        due.sentence("Promise 2: OUTSIDE: code (1 to 126)", () -> {
            LeastMissed x = new LeastMissed();
            due.outside("letter(#)", x, 1, 126, OUTSIDE, x::letter);
            due.is("letter(1)", x.letter(1), 1);
            due.is("letter(126)", x.letter(126), 2);
            due.outside("letter(#) behind two", x, 1, 126, OUTSIDE, x::letter);
        });
        due.sentence("Promise 2: FULL: above 32", () -> {
            LeastMissed x = Due.page(FULL_PAGE.substring(1));
            due.is("the 32nd", x.letter('t'), 32);
            due.refused("the 33rd", x, FULL, () -> x.letter('t'));
            due.refused("letter(1) then", x, FULL, () -> x.letter(1));
            due.refused("letter(126) then", x, FULL, () -> x.letter(126));
        });
        due.sentence("Promise 2: OUTSIDE ahead of FULL", () -> {
            LeastMissed x = Due.page(FULL_PAGE);
            due.outside("letter(#)", x, 1, 126, OUTSIDE, x::letter);
        });
    }

    private static void blank(Due due) {
        due.sentence("Promise 3: an empty PAGE", () -> {
            LeastMissed x = new LeastMissed();
            due.onlyTells("blank() of a new one", x, 0, x::blank);
            LeastMissed y = Due.house(TWO);
            due.onlyTells("blank() with a HOUSE", y, 0, y::blank);
        });
        due.sentence("Promise 3: a full PAGE", () -> {
            LeastMissed x = Due.page(FULL_PAGE);
            due.is("blank()", x.blank(), 32);
            due.is("count(9)", x.count(9), 0);
            due.is("blank() again", x.blank(), 0);
            due.is("letter('t')", x.letter('t'), 1);
        });
        due.sentence("Promise 3: THE PAGE alone is empty", () -> {
            LeastMissed x = Due.house(TWO);
            long before = x.digest();
            Due.write(x, "tc");
            due.is("blank()", x.blank(), 2);
            due.is("digest()", x.digest(), before);
        });
    }

    private static void fault(Due due) {
        due.sentence("Promise 4: a PAGE that is empty", () -> {
            due.is("fault() of a new one", new LeastMissed().fault(), 0);
            due.is("fault() with a HOUSE", Due.house(TWO).fault(), 0);
            LeastMissed x = Due.page("x");
            x.blank();
            due.is("fault() behind blank()", x.fault(), 0);
        });
        due.sentence("Promise 4: the place, from 0", () -> {
            due.is("fault() of x", Due.page("x").fault(), 0);
            due.is("fault() of tx", Due.page("tx").fault(), 1);
            due.is("fault() of the last letter", Due.page("t10,c20;4x").fault(), 9);
        });
        due.sentence("Promise 4: the first letter of several", () -> {
            due.is("fault() of two", Due.page("t1x,0").fault(), 2);
            due.is("fault() of many", Due.page("xxxxxxxx").fault(), 0);
            due.is("fault() ahead of a HOUSE", Due.page("," + TWO).fault(), 0);
        });
        due.sentence("Promise 4: no fault, but no HOUSE yet", () -> {
            for (String text : new String[] {TWO, SEVEN}) {
                for (int length = 0; length < text.length(); length++) {
                    LeastMissed x = Due.page(text.substring(0, length));
                    due.is("fault() of " + text.substring(0, length), x.fault(), length);
                    due.refused("house() of " + text.substring(0, length), x, STATE, x::house);
                }
            }
        });
        due.sentence("Promise 4: how many letters a HOUSE has", () -> {
            due.is("fault() of two", Due.page(TWO).fault(), 10);
            due.is("fault() of seven", Due.page(SEVEN).fault(), 30);
        });
        due.sentence("Promise 4: a letter behind a HOUSE, and a full PAGE", () -> {
            due.is("fault() of a HOUSE and ';'", Due.page(TWO + ";").fault(), 10);
            due.is("fault() of a HOUSE and a digit", Due.page(SEVEN + "0").fault(), 30);
            due.is("fault() of a full PAGE", Due.page(SEVEN + "00").fault(), 30);
            due.is("fault() of 32 letters", Due.page(FULL_PAGE).fault(), 1);
        });
        due.sentence("Promise 4: fault() changes nothing", () -> {
            String[] texts = {"", "x", "t10,", "t10;", TWO, SEVEN + "0"};
            int[] faults = {0, 0, 4, 3, 10, 30};
            for (int i = 0; i < texts.length; i++) {
                LeastMissed x = Due.write(Due.house(TWO), texts[i]);
                due.onlyTells("fault() of " + texts[i], x, faults[i], x::fault);
            }
        });
    }

    private static void house(Due due) {
        due.sentence("Promise 5: how many THINGS", () -> {
            for (int things = 2; things <= 7; things++) {
                LeastMissed x = Due.page(SEVEN.substring(0, 4 * things - 1) + ";83");
                due.is("house() of " + things, x.house(), things);
                due.is("count(0) of " + things, x.count(0), things);
            }
        });
        due.sentence("Promise 5: THE PAGE is empty then", () -> {
            for (String text : new String[] {TWO, SEVEN}) {
                LeastMissed x = Due.house(text);
                due.is("count(9) behind " + text, x.count(9), 0);
                due.is("blank() behind " + text, x.blank(), 0);
                due.refused("house() again", x, STATE, x::house);
            }
        });
        due.sentence("Promise 5: STATE: it is none", () -> {
            for (String text : new String[] {"", "t", "t10;05", "t10,c20", "t10,c20,;05", "t10,c20;5", "t10,c20;050",
                "t00,c20;05", "T10,c20;05", "x10,c20;05", ",t10,c20;05", "t10,,c20;05", "t1:,c20;05", "t10,c20;0:",
                SEVEN + "0", SEVEN + "00", FULL_PAGE}) {
                LeastMissed x = Due.page(text);
                due.refused("house() of " + text, x, STATE, x::house);
                due.is("count(9) behind " + text, x.count(9), text.length());
            }
        });
        due.sentence("Promise 5: a refused one leaves another HOUSE, with all that was", () -> {
            for (String text : new String[] {"", "t10,c2", TWO + "0"}) {
                LeastMissed x = Due.write(lived(), text);
                due.refused("house() of " + text, x, STATE, x::house);
                due.is("restore() behind " + text, x.restore(), 3);
            }
        });
    }

    /** A HOUSE of which all is as it can no more be at first: three DAYS, three TOUCHES, two TAKEN, one SEEN. */
    private static LeastMissed lived() {
        LeastMissed x = Due.house(SEVEN);
        Due.takes(Due.days(Due.touches(x, 6, 3), 3), 2);
        x.see(0, 0, 1);
        x.image();
        return x;
    }

    private static void anotherHouse(Due due) {
        gone(due, "the THINGS that were", TWO, x -> {
            due.is("count(0)", x.count(0), 2);
            due.is("thing(1, 0)", x.thing(1, 0), 3);
            due.is("thing(2, 0)", x.thing(2, 0), UNKNOWN);
            due.is("thing(6, 0)", x.thing(6, 0), UNKNOWN);
        });
        gone(due, "the DEBT that was", TWO, x -> due.is("count(2)", x.count(2), 47));
        gone(due, "what was TAKEN", SEVEN, x -> {
            due.is("count(1)", x.count(1), 0);
            due.is("count(7)", x.count(7), 0);
            for (int thing = 0; thing < 7; thing++) {
                due.is("thing(" + thing + ", 5)", x.thing(thing, 5), 0);
            }
        });
        gone(due, "DAYS", SEVEN, x -> {
            due.is("count(3)", x.count(3), 0);
            due.is("day()", x.day(), 1);
        });
        gone(due, "SINCE", SEVEN, x -> {
            for (int thing = 0; thing < 7; thing++) {
                due.is("thing(" + thing + ", 3)", x.thing(thing, 3), 0);
            }
        });
        gone(due, "LOOKS by TOUCHES", SEVEN, x -> due.is("thing(6, 2)", x.thing(6, 2), 4));
        gone(due, "how often any was TOUCHED", SEVEN, x -> due.is("count(6)", x.count(6), 0));
        gone(due, "what was SEEN", SEVEN, x -> {
            due.is("count(8)", x.count(8), 0);
            due.is("thing(0, 6)", x.thing(0, 6), (1 << 21) - 1);
        });
        gone(due, "the IMAGE", SEVEN, x -> due.refused("restore()", x, STATE, x::restore));
        due.sentence("Promise 5: another HOUSE of more THINGS", () -> {
            LeastMissed x = Due.write(Due.house(TWO), SEVEN);
            due.is("house()", x.house(), 7);
            due.is("thing(6, 1)", x.thing(6, 1), 9);
            due.is("digest()", x.digest(), Due.house(SEVEN).digest() + 31);
        });
    }

    private interface Told {
        void of(LeastMissed x);
    }

    private static void gone(Due due, String what, String text, Told told) {
        due.sentence("Promise 5: with another HOUSE gone: " + what, () -> told.of(Due.reads(lived(), text)));
    }

    private static void notGone(Due due) {
        due.sentence("Promise 5: how often a HOUSE was read, and sale() done, goes on", () -> {
            LeastMissed x = lived();
            x.sale();
            Due.reads(x, TWO);
            due.is("count(10)", x.count(10), 2);
            due.is("count(11)", x.count(11), 1);
            Due.reads(x, TWO);
            due.is("count(10) then", x.count(10), 3);
        });
    }

    private static void thing(Due due) {
        due.sentence("Promise 6: whether it is TAKEN (1, 0)", () -> {
            LeastMissed x = Due.house(SEVEN);
            due.is("thing(0, 5)", x.thing(0, 5), 0);
            x.take();
            due.is("thing(0, 5), TAKEN", x.thing(0, 5), 1);
            due.is("thing(1, 5)", x.thing(1, 5), 0);
            x.redeem(0);
            due.is("thing(0, 5), redeemed", x.thing(0, 5), 0);
        });
        due.sentence("Promise 6: 7 WATCH (NONE)", () -> {
            LeastMissed x = Due.house(TWO);
            due.is("thing(0, 7)", x.thing(0, 7), 0);
            x.see(0, 0, 1);
            x.see(0, 0, 2);
            due.is("thing(0, 7), no LOOKS", x.thing(0, 7), NONE);
            due.is("thing(1, 7)", x.thing(1, 7), 0);
        });
        due.sentence("Promise 6: 8 to which buyer it goes by SALE (NONE)", () -> {
            LeastMissed x = Due.house(TWO);
            due.is("thing(1, 8)", x.thing(1, 8), NONE);
            x.take();
            due.is("thing(1, 8), TAKEN", x.thing(1, 8), 0);
            due.is("thing(0, 8)", x.thing(0, 8), NONE);
            due.is("count(11)", x.count(11), 0);
        });
        due.sentence("Promise 6: thing() changes nothing", () -> {
            int[] told = {1, 9, 7, 3, 1, 0, (1 << 21) - 1, 0, NONE};
            LeastMissed x = lived();
            for (int what = 0; what <= 8; what++) {
                x.thing(6, what);
            }
            for (int what = 0; what <= 8; what++) {
                int asked = what;
                due.is("thing(6, " + what + ") behind all", x.thing(6, what), told[what]);
                due.onlyTells("thing(6, " + what + ")", x, told[what], () -> x.thing(6, asked));
            }
        });
    }

    private static void thingRefused(Due due) {
        due.sentence("Promise 6: UNKNOWN", () -> {
            LeastMissed none = new LeastMissed();
            LeastMissed two = Due.house(TWO);
            LeastMissed seven = lived();
            for (int what = 0; what <= 8; what++) {
                int asked = what;
                due.refused("no HOUSE, thing(0, " + what + ")", none, UNKNOWN, () -> none.thing(0, asked));
                due.outside("of two, thing(#, " + what + ")", two, 0, 1, UNKNOWN, n -> two.thing(n, asked));
                due.outside("of seven, thing(#, " + what + ")", seven, 0, 6, UNKNOWN, n -> seven.thing(n, asked));
            }
            due.is("of two, thing(1, 0)", two.thing(1, 0), 3);
            due.is("of seven, thing(6, 0)", seven.thing(6, 0), 1);
        });
        due.sentence("Promise 6: OUTSIDE", () -> {
            LeastMissed x = lived();
            for (int thing = 0; thing < 7; thing++) {
                int asked = thing;
                due.outside("thing(" + thing + ", #)", x, 0, 8, OUTSIDE, n -> x.thing(asked, n));
            }
            due.is("thing(6, 0)", x.thing(6, 0), 1);
            due.is("thing(6, 8)", x.thing(6, 8), NONE);
        });
        due.sentence("Promise 6: UNKNOWN ahead of OUTSIDE", () -> {
            LeastMissed none = new LeastMissed();
            LeastMissed x = lived();
            due.outside("no HOUSE, thing(0, #)", none, 0, 8, UNKNOWN, n -> none.thing(0, n));
            due.outside("thing(-1, #)", x, 0, 8, UNKNOWN, n -> x.thing(-1, n));
            due.outside("thing(7, #)", x, 0, 8, UNKNOWN, n -> x.thing(7, n));
        });
    }

    private static void as(Due due) {
        due.sentence("Promise 7: its number", () -> {
            LeastMissed x = Due.house(SEVEN);
            for (int thing = 0; thing < 7; thing++) {
                due.is("as(" + thing + ", 0)", x.as(thing, 0), thing);
            }
            due.is("as(6, 1)", x.as(6, 1), 6);
        });
        due.sentence("Promise 7: NONE: it is none such", () -> {
            LeastMissed x = Due.house("t11,c11,u11,p11,s11;11");
            String[] is = {"0", "01", "02", "03", "014"};
            for (int thing = 0; thing < 5; thing++) {
                for (int kind = 0; kind < 5; kind++) {
                    int want = is[thing].indexOf('0' + kind) >= 0 ? thing : NONE;
                    due.onlyTells("as(" + thing + ", " + kind + ")", x, want, asked(x, thing, kind));
                }
            }
        });
        due.sentence("Promise 7: a TAKEN one, too", () -> {
            LeastMissed x = Due.takes(Due.house("s10,t11;11"), 1);
            due.is("as(0, 4)", x.as(0, 4), 0);
            due.is("as(0, 1)", x.as(0, 1), 0);
            due.is("as(0, 2)", x.as(0, 2), NONE);
        });
        due.sentence("Promise 7: UNKNOWN", () -> {
            LeastMissed none = new LeastMissed();
            LeastMissed two = Due.house(TWO);
            LeastMissed seven = lived();
            due.refused("no HOUSE, as(0, 0)", none, UNKNOWN, () -> none.as(0, 0));
            due.outside("of two, as(#, 0)", two, 0, 1, UNKNOWN, n -> two.as(n, 0));
            due.outside("of seven, as(#, 4)", seven, 0, 6, UNKNOWN, n -> seven.as(n, 4));
        });
        due.sentence("Promise 7: OUTSIDE", () -> {
            LeastMissed x = Due.house("t11,s11;11");
            due.outside("as(0, #)", x, 0, 4, OUTSIDE, n -> x.as(0, n));
            due.outside("as(1, #)", x, 0, 4, OUTSIDE, n -> x.as(1, n));
            due.is("as(1, 0)", x.as(1, 0), 1);
            due.is("as(1, 4)", x.as(1, 4), 1);
        });
        due.sentence("Promise 7: UNKNOWN ahead of OUTSIDE", () -> {
            LeastMissed none = new LeastMissed();
            LeastMissed x = Due.house(TWO);
            due.outside("no HOUSE, as(0, #)", none, 0, 4, UNKNOWN, n -> none.as(0, n));
            due.outside("as(-1, #)", x, 0, 4, UNKNOWN, n -> x.as(-1, n));
            due.outside("as(2, #)", x, 0, 4, UNKNOWN, n -> x.as(2, n));
        });
    }

    private static java.util.function.IntSupplier asked(LeastMissed x, int thing, int kind) {
        return () -> x.as(thing, kind);
    }
}
