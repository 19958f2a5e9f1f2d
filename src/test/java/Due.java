/** Compares answers with those that are due, and ends a test with exit code 1 if one was not. */
final class Due {
    private int asked = 0;
    private int wrong = 0;

    void is(String call, long got, long want) {
        asked++;
        if (got != want) {
            wrong++;
            System.out.println(call + " answered " + got + ", due is " + want);
        }
    }

    void end() {
        System.out.println(asked + " answers, " + wrong + " of them not as due");
        if (wrong != 0 || asked == 0) {
            System.exit(1);
        }
    }

    /** Puts the text behind what the page has. */
    static LeastMissed write(LeastMissed x, String text) {
        for (int i = 0; i < text.length(); i++) {
            x.letter(text.charAt(i));
        }
        return x;
    }

    static LeastMissed page(String text) {
        return write(new LeastMissed(), text);
    }

    static LeastMissed house(String text) {
        LeastMissed x = page(text);
        x.house();
        return x;
    }

    static LeastMissed days(LeastMissed x, int days) {
        for (int i = 0; i < days; i++) {
            x.day();
        }
        return x;
    }

    static LeastMissed touches(LeastMissed x, int thing, int times) {
        for (int i = 0; i < times; i++) {
            x.touch(thing);
        }
        return x;
    }

    static LeastMissed takes(LeastMissed x, int times) {
        for (int i = 0; i < times; i++) {
            x.take();
        }
        return x;
    }
}
