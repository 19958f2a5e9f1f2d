import java.util.Random;

/** Promises 1 to 25: runs of calls by a fixed seed, each call answered by the program and by the oracle. */
public final class RandomRunsTest {
    private static final int RUNS = 300, CALLS = 512;
    private static final Due due = new Due();

    private final Random random;
    private final LeastMissed x = new LeastMissed();
    private final Oracle o = new Oracle();
    private String waiting = "";
    private int run;

    private RandomRunsTest(int run) {
        this.run = run;
        random = new Random(8529L * run);
    }

    public static void main(String[] args) {
        for (int run = 0; run < RUNS; run++) {
            RandomRunsTest test = new RandomRunsTest(run);
            for (int i = 0; i < CALLS; i++) {
                test.call();
            }
        }
        due.end();
    }

    /** Mostly from low to high, else just beside or far from there. */
    private int number(int low, int high) {
        int way = random.nextInt(40);
        return switch (way) {
            case 0 -> low - 1;
            case 1 -> high + 1;
            case 2 -> Integer.MIN_VALUE;
            case 3 -> Integer.MAX_VALUE;
            default -> low + random.nextInt(high - low + 1);
        };
    }

    private int aThing() {
        return number(0, Math.max(1, o.count(0)) - 1);
    }

    private String aHouse() {
        StringBuilder text = new StringBuilder();
        int things = 2 + random.nextInt(6);
        String kinds = random.nextInt(3) == 0 ? "tcups".charAt(random.nextInt(5)) + "" : "tcups";
        int most = random.nextInt(3) == 0 ? 3 : 10;
        for (int i = 0; i < things; i++) {
            text.append(i == 0 ? "" : ",").append(kinds.charAt(random.nextInt(kinds.length())));
            text.append(1 + random.nextInt(most - 1)).append(random.nextInt(most));
        }
        text.append(';').append(random.nextInt(10)).append(random.nextInt(10));
        if (random.nextInt(4) == 0) {
            text.setCharAt(random.nextInt(text.length()), "tcups0123456789,;x".charAt(random.nextInt(18)));
        }
        return text.toString();
    }

    private void is(String call, long got, long want) {
        due.is("run " + run + ": " + call, got, want);
    }

    private void call() {
        if (!waiting.isEmpty()) {
            letter(waiting.charAt(0));
            waiting = waiting.substring(1);
            return;
        }
        int which = random.nextInt(o.count(0) == 0 ? 12 : 100);
        if (which < 12) {
            ofThePage(which);
        } else if (which < 50) {
            done(which - 12);
        } else if (which < 80) {
            wouldBe(which - 50);
        } else {
            told(which - 80);
        }
    }

    private void letter(int code) {
        is("letter(" + code + ")", x.letter(code), o.letter(code));
    }

    private void ofThePage(int which) {
        switch (which) {
            case 0 -> waiting = aHouse();
            case 1 -> is("blank()", x.blank(), o.blank());
            case 2, 3 -> is("fault()", x.fault(), o.fault());
            case 4, 5, 6 -> is("house()", x.house(), o.house());
            case 7 -> letter(number(1, 126));
            case 8 -> {
                is("blank()", x.blank(), o.blank());
                waiting = aHouse();
            }
            case 9 -> is("digest()", x.digest(), o.digest());
            default -> withoutHouse(random.nextInt(16));
        }
    }

    /** Calls that are mostly refused while there is no house. */
    private void withoutHouse(int which) {
        if (which < 8) {
            done(which * 5);
        } else {
            wouldBe((which - 8) * 4);
        }
    }

    private void done(int which) {
        int thing = aThing();
        if (which < 10) {
            is("touch(" + thing + ")", x.touch(thing), o.touch(thing));
        } else if (which < 18) {
            is("day()", x.day(), o.day());
        } else if (which < 23) {
            is("take()", x.take(), o.take());
        } else if (which < 27) {
            is("redeem(" + thing + ")", x.redeem(thing), o.redeem(thing));
        } else if (which < 30) {
            int more = number(1, 50);
            is("borrow(" + more + ")", x.borrow(more), o.borrow(more));
        } else if (which < 33) {
            int kind = number(0, 4);
            int worth = number(1, 9);
            is("change(" + thing + ", " + kind + ", " + worth + ")",
                x.change(thing, kind, worth), o.change(thing, kind, worth));
        } else {
            int kind = number(0, 4);
            is("as(" + thing + ", " + kind + ")", x.as(thing, kind), o.as(thing, kind));
        }
    }

    private void wouldBe(int which) {
        if (which < 6) {
            int days = number(0, 20);
            is("next(" + days + ")", x.next(days), o.next(days));
        } else if (which < 11) {
            int days = number(1, random.nextInt(8) == 0 ? 4 : 2);
            int what = random.nextInt(3) == 0 ? number(0, 1) : number(10, 13);
            is("siege(" + days + ", " + what + ")", x.siege(days, what), o.siege(days, what));
        } else if (which < 16) {
            int what = number(0, 2);
            is("makeUp(" + what + ")", x.makeUp(what), o.makeUp(what));
        } else if (which < 21) {
            int thing = aThing();
            int days = number(1, 3);
            int what = number(0, 1);
            is("odds(" + thing + ", " + days + ", " + what + ")", x.odds(thing, days, what), o.odds(thing, days, what));
        } else if (which < 23) {
            is("sale()", x.sale(), o.sale());
        } else {
            int days = number(1, 60);
            int seed = random.nextInt(30) == 0 ? -random.nextInt(5) : random.nextInt(Integer.MAX_VALUE);
            int what = number(0, 2);
            is("months(" + days + ", " + seed + ", " + what + ")",
                x.months(days, seed, what), o.months(days, seed, what));
        }
    }

    private void told(int which) {
        int thing = aThing();
        if (which < 5) {
            int what = number(0, 8);
            is("thing(" + thing + ", " + what + ")", x.thing(thing, what), o.thing(thing, what));
        } else if (which < 8) {
            int day = number(0, 9);
            int missed = random.nextInt(3) == 0 ? 0 : number(0, 20);
            is("see(" + thing + ", " + day + ", " + missed + ")", x.see(thing, day, missed), o.see(thing, day, missed));
        } else if (which < 9) {
            is("forget()", x.forget(), o.forget());
        } else if (which < 11) {
            is("image()", x.image(), o.image());
        } else if (which < 13) {
            is("restore()", x.restore(), o.restore());
        } else if (which < 17) {
            int what = number(0, 11);
            is("count(" + what + ")", x.count(what), o.count(what));
        } else {
            is("digest()", x.digest(), o.digest());
        }
    }
}
