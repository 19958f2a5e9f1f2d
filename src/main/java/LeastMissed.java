/** A debtor's house and the bailiff who takes what is least missed in it. */
public final class LeastMissed {
    public static final int NONE = -1, UNKNOWN = -101, OUTSIDE = -102, STATE = -103, FULL = -104;

    private static final int CLOCK = 1, CUP = 2, PIANO = 3, SMELL = 4, KINDS = 5;
    private static final String KIND_LETTERS = "tcups";

    private static final int LEAST_THINGS = 2, MOST_THINGS = 7, MOST_WORTH = 9;
    private static final int MOST_LOOKS = 20, MOST_SINCE = 20;
    private static final int MOST_LETTERS = 32, MOST_CODE = 126;
    private static final int MOST_DEBT = 99, MOST_MORE = 50;
    private static final int MOST_DAYS = 999, MOST_TOUCHES = 999;
    private static final int MOST_NEXT_DAYS = 20, MOST_SIEGE_DAYS = 4, MOST_CHILD_DAYS = 3;
    private static final int MOST_SEEN = 6, MOST_WATCH_DAY = 9;
    private static final int MOST_SALES = 16, MOST_MONTHS_DAYS = 60;
    private static final int NO_TOUCH = 7, FIRST_TOUCH = 10, DAYS_TO_TAKING = 5;

    private final Page page = new Page();
    private final House home = new House();
    private final House kept = new House();
    private final Sightings seen = new Sightings();
    private final Sightings keptSeen = new Sightings();
    private final Siege besieged = new Siege();
    private final Offer offer = new Offer();
    private final Child child = new Child();
    private final Auction auction = new Auction();
    private final Calendar calendar = new Calendar();
    private boolean imageKept;
    private int housesRead;
    private int salesDone;

    public LeastMissed() {
    }

    // ---- the house

    public int letter(int code) {
        if (code < 1 || code > MOST_CODE) {
            return OUTSIDE;
        }
        return page.add(code) ? page.size : FULL;
    }

    public int blank() {
        int had = page.size;
        page.size = 0;
        return had;
    }

    public int fault() {
        return page.firstFault();
    }

    public int house() {
        if (!page.isHouse()) {
            return STATE;
        }
        page.readInto(home);
        page.size = 0;
        seen.size = 0;
        imageKept = false;
        housesRead++;
        return home.size;
    }

    public int thing(int thing, int what) {
        if (!home.has(thing)) {
            return UNKNOWN;
        }
        switch (what) {
            case 0: return home.kind[thing];
            case 1: return home.worth[thing];
            case 2: return home.looks[thing];
            case 3: return home.since[thing];
            case 4: return home.missedBehind(thing, 0);
            case 5: return isIn(home.taken, thing) ? 1 : 0;
            case 6: return seen.looksOf(home, thing);
            case 7: return seen.watchOf(home, thing);
            case 8: return auction.buyerOf(home, thing);
            default: return OUTSIDE;
        }
    }

    public int as(int thing, int kind) {
        if (!home.has(thing)) {
            return UNKNOWN;
        }
        if (kind < 0 || kind >= KINDS) {
            return OUTSIDE;
        }
        return isKind(home.kind[thing], kind) ? thing : NONE;
    }

    // ---- what is done

    public int touch(int thing) {
        if (!home.has(thing)) {
            return UNKNOWN;
        }
        if (isIn(home.taken, thing)) {
            return STATE;
        }
        if (home.touches >= MOST_TOUCHES) {
            return FULL;
        }
        home.lookAt(thing, 0);
        home.touches++;
        return home.missedBehind(thing, 0);
    }

    public int day() {
        if (home.isNone()) {
            return STATE;
        }
        if (home.days >= MOST_DAYS) {
            return FULL;
        }
        home.passDay();
        return home.days;
    }

    public int take() {
        int thing = home.isNone() ? NONE : home.wouldTake(0);
        if (thing == NONE) {
            return STATE;
        }
        home.haveAway(thing);
        return thing;
    }

    public int redeem(int thing) {
        if (!home.has(thing)) {
            return UNKNOWN;
        }
        if (!isIn(home.taken, thing)) {
            return STATE;
        }
        if (home.debt + home.worth[thing] > MOST_DEBT) {
            return FULL;
        }
        home.taken &= ~(1 << thing);
        home.debt += home.worth[thing];
        return home.debt;
    }

    public int borrow(int more) {
        if (more < 1 || more > MOST_MORE) {
            return OUTSIDE;
        }
        if (home.isNone()) {
            return STATE;
        }
        if (home.debt + more > MOST_DEBT) {
            return FULL;
        }
        home.debt += more;
        return home.debt;
    }

    public int change(int thing, int kind, int worth) {
        if (!home.has(thing)) {
            return UNKNOWN;
        }
        if (kind < 0 || kind >= KINDS || worth < 1 || worth > MOST_WORTH) {
            return OUTSIDE;
        }
        int was = home.kind[thing];
        home.kind[thing] = kind;
        home.worth[thing] = worth;
        return was;
    }

    // ---- what would be

    public int next(int days) {
        if (days < 0 || days > MOST_NEXT_DAYS) {
            return OUTSIDE;
        }
        return home.isNone() ? STATE : home.wouldTake(days);
    }

    public int siege(int days, int what) {
        if (days < 1 || days > MOST_SIEGE_DAYS || !isSiegeAnswer(what)) {
            return OUTSIDE;
        }
        if (home.isNone()) {
            return STATE;
        }
        besieged.search(home, days);
        if (what == 0) {
            return besieged.worth;
        }
        return what == 1 ? besieged.missed : besieged.touchedOn(what - FIRST_TOUCH);
    }

    public int makeUp(int what) {
        if (what < 0 || what > 2) {
            return OUTSIDE;
        }
        if (home.isNone()) {
            return STATE;
        }
        offer.search(home);
        if (what == 0) {
            return offer.missed;
        }
        return what == 1 ? offer.worth : offer.which;
    }

    public int odds(int thing, int days, int what) {
        if (!home.has(thing)) {
            return UNKNOWN;
        }
        if (days < 1 || days > MOST_CHILD_DAYS || what < 0 || what > 1) {
            return OUTSIDE;
        }
        if (isIn(home.taken, thing)) {
            return STATE;
        }
        int above = child.waysTo(home, thing, days);
        int below = power(home.left(), days);
        return inLowestTerms(what == 0 ? above : below, above, below);
    }

    public int sale() {
        if (home.isNone() || salesDone >= MOST_SALES) {
            return STATE;
        }
        salesDone++;
        return auction.mostOf(home);
    }

    // ---- what is seen

    public int see(int thing, int day, int missed) {
        if (!home.has(thing)) {
            return UNKNOWN;
        }
        if (day < 0 || day > MOST_WATCH_DAY || missed < 0 || missed > MOST_LOOKS) {
            return OUTSIDE;
        }
        return seen.add(thing, day, missed) ? seen.size : FULL;
    }

    public int forget() {
        int had = seen.size;
        seen.size = 0;
        return had;
    }

    public int months(int days, int seed, int what) {
        if (days < 1 || days > MOST_MONTHS_DAYS || seed < 0 || what < 0 || what > 2) {
            return OUTSIDE;
        }
        if (home.isNone()) {
            return STATE;
        }
        calendar.goThrough(home, days, seed);
        if (what == 0) {
            return calendar.worth;
        }
        return what == 1 ? calendar.debt : calendar.seed;
    }

    // ---- what is told of all

    public int image() {
        if (home.isNone()) {
            return STATE;
        }
        kept.copyFrom(home);
        keptSeen.copyFrom(seen);
        imageKept = true;
        return home.days;
    }

    public int restore() {
        if (!imageKept) {
            return STATE;
        }
        home.copyFrom(kept);
        seen.copyFrom(keptSeen);
        return home.days;
    }

    public int count(int what) {
        switch (what) {
            case 0: return home.size;
            case 1: return Integer.bitCount(home.taken);
            case 2: return home.debt;
            case 3: return home.days;
            case 4: return home.worthOf(~home.taken);
            case 5: return home.missedOf(~home.taken, 0);
            case 6: return home.touches;
            case 7: return home.worthOf(home.taken);
            case 8: return seen.size;
            case 9: return page.size;
            case 10: return housesRead;
            case 11: return salesDone;
            default: return OUTSIDE;
        }
    }

    public long digest() {
        long h = 1259;
        for (int thing = 0; thing < home.size; thing++) {
            for (int what = 0; what <= 7; what++) {
                h = 31 * h + thing(thing, what);
            }
        }
        if (!home.isNone()) {
            besieged.search(home, 2);
            offer.search(home);
            h = 31 * h + home.wouldTake(0);
            h = 31 * h + home.wouldTake(5);
            h = 31 * h + besieged.worth;
            h = 31 * h + besieged.missed;
            h = 31 * h + besieged.touchedOn(0);
            h = 31 * h + besieged.touchedOn(1);
            h = 31 * h + offer.missed;
            h = 31 * h + offer.worth;
            h = 31 * h + offer.which;
        }
        for (int place = 0; place < page.size; place++) {
            h = 31 * h + page.codes[place];
        }
        for (int what = 0; what <= 11; what++) {
            h = 31 * h + count(what);
        }
        return h;
    }

    private static boolean isSiegeAnswer(int what) {
        return what == 0 || what == 1
            || (what >= FIRST_TOUCH && what < FIRST_TOUCH + MOST_SIEGE_DAYS);
    }

    private static boolean isIn(int bits, int thing) {
        return (bits >> thing & 1) == 1;
    }

    private static boolean isKind(int own, int kind) {
        return kind == 0 || kind == own || (kind == CLOCK && own == SMELL);
    }

    private static int missedBy(int kind, int looks, int since) {
        switch (kind) {
            case CLOCK: return Math.max(0, looks - 2 * since);
            case CUP: return looks;
            case PIANO: return Math.max(0, looks / 2 - since);
            case SMELL: return Math.max(0, looks - 4 * since);
            default: return Math.max(0, looks - since);
        }
    }

    private static int power(int base, int times) {
        int product = 1;
        for (int i = 0; i < times; i++) {
            product *= base;
        }
        return product;
    }

    /** Of 0 above, below itself divides both, which makes 0 of 1. */
    private static int inLowestTerms(int part, int above, int below) {
        for (int by = below; by > 1; by--) {
            if (above % by == 0 && below % by == 0) {
                return part / by;
            }
        }
        return part;
    }

    /** THE PAGE: letters that may become a house. */
    private static final class Page {
        final int[] codes = new int[MOST_LETTERS];
        int size;

        boolean add(int code) {
            if (size >= codes.length) {
                return false;
            }
            codes[size] = code;
            size++;
            return true;
        }

        int firstFault() {
            int end = NONE;
            for (int place = 0; place < size; place++) {
                boolean fits = end == NONE ? fitsThings(place) : fitsDebt(place, end);
                if (!fits) {
                    return place;
                }
                if (codes[place] == ';') {
                    end = place;
                }
            }
            return size;
        }

        /** Without a fault there is at most one ';', so two digits behind it make the page whole. */
        boolean isHouse() {
            return size >= 3 && firstFault() == size && codes[size - 3] == ';';
        }

        /** Only for a page that is a house. */
        void readInto(House home) {
            home.size = Math.min(MOST_THINGS, (size - 2) / 4);
            for (int thing = 0; thing < home.size; thing++) {
                home.kind[thing] = KIND_LETTERS.indexOf((char) codes[4 * thing]);
                home.worth[thing] = codes[4 * thing + 1] - '0';
                home.looks[thing] = codes[4 * thing + 2] - '0';
                home.since[thing] = 0;
            }
            home.debt = 10 * (codes[size - 2] - '0') + (codes[size - 1] - '0');
            home.taken = 0;
            home.days = 0;
            home.touches = 0;
        }

        private boolean fitsThings(int place) {
            int code = codes[place];
            switch (place % 4) {
                case 0: return KIND_LETTERS.indexOf((char) code) >= 0;
                case 1: return code != '0' && isDigit(code);
                case 2: return isDigit(code);
                default: return fitsBehindThings(place / 4 + 1, code);
            }
        }

        private boolean fitsDebt(int place, int end) {
            return place <= end + 2 && isDigit(codes[place]);
        }

        private static boolean fitsBehindThings(int things, int code) {
            return (code == ',' && things < MOST_THINGS) || (code == ';' && things >= LEAST_THINGS);
        }

        private static boolean isDigit(int code) {
            return code >= '0' && code <= '9';
        }
    }

    /** Things, what is taken of them (as bits) and what is owed; of size 0 if there is no house. */
    private static final class House {
        final int[] kind = new int[MOST_THINGS];
        final int[] worth = new int[MOST_THINGS];
        final int[] looks = new int[MOST_THINGS];
        final int[] since = new int[MOST_THINGS];
        int size;
        int taken;
        int debt;
        int days;
        int touches;

        void copyFrom(House other) {
            System.arraycopy(other.kind, 0, kind, 0, MOST_THINGS);
            System.arraycopy(other.worth, 0, worth, 0, MOST_THINGS);
            System.arraycopy(other.looks, 0, looks, 0, MOST_THINGS);
            System.arraycopy(other.since, 0, since, 0, MOST_THINGS);
            size = other.size;
            taken = other.taken;
            debt = other.debt;
            days = other.days;
            touches = other.touches;
        }

        boolean isNone() {
            return size == 0;
        }

        boolean has(int thing) {
            return thing >= 0 && thing < size;
        }

        int left() {
            return size - Integer.bitCount(taken);
        }

        /** A trial does not pass its days but counts them: what is touched then is looked at so many days ahead. */
        void lookAt(int thing, int daysAhead) {
            looks[thing] = Math.min(MOST_LOOKS, looks[thing] + 1);
            since[thing] = -daysAhead;
        }

        void passDay() {
            days++;
            for (int thing = 0; thing < size; thing++) {
                since[thing] = sinceBehind(thing, 1);
            }
        }

        void haveAway(int thing) {
            taken |= 1 << thing;
            debt = Math.max(0, debt - worth[thing]);
        }

        int sinceBehind(int thing, int ahead) {
            return isIn(taken, thing) ? since[thing] : Math.min(MOST_SINCE, since[thing] + ahead);
        }

        int missedBehind(int thing, int ahead) {
            return missedBy(kind[thing], looks[thing], sinceBehind(thing, ahead));
        }

        int wouldTake(int ahead) {
            if (debt <= 0) {
                return NONE;
            }
            int least = NONE;
            int leastMissed = 0;
            for (int thing = 0; thing < size; thing++) {
                if (isIn(taken, thing)) {
                    continue;
                }
                int missed = missedBehind(thing, ahead);
                if (least == NONE || missed < leastMissed) {
                    least = thing;
                    leastMissed = missed;
                }
            }
            return least;
        }

        int worthOf(int which) {
            int together = 0;
            for (int thing = 0; thing < size; thing++) {
                together += isIn(which, thing) ? worth[thing] : 0;
            }
            return together;
        }

        int missedOf(int which, int ahead) {
            int together = 0;
            for (int thing = 0; thing < size; thing++) {
                together += isIn(which, thing) ? missedBehind(thing, ahead) : 0;
            }
            return together;
        }
    }

    /** What is SEEN, and what LOOKS can be by it. */
    private static final class Sightings {
        private final int[] things = new int[MOST_SEEN];
        private final int[] days = new int[MOST_SEEN];
        private final int[] missed = new int[MOST_SEEN];
        private final int[] tally = new int[MOST_LOOKS + 1];
        int size;

        void copyFrom(Sightings other) {
            System.arraycopy(other.things, 0, things, 0, MOST_SEEN);
            System.arraycopy(other.days, 0, days, 0, MOST_SEEN);
            System.arraycopy(other.missed, 0, missed, 0, MOST_SEEN);
            size = other.size;
        }

        boolean add(int thing, int ahead, int missedThen) {
            if (size >= MOST_SEEN) {
                return false;
            }
            things[size] = thing;
            days[size] = ahead;
            missed[size] = missedThen;
            size++;
            return true;
        }

        int looksOf(House home, int thing) {
            int bits = 0;
            for (int looks = 0; looks <= MOST_LOOKS; looks++) {
                bits |= agrees(home, thing, looks) ? 1 << looks : 0;
            }
            return bits;
        }

        int watchOf(House home, int thing) {
            int candidates = looksOf(home, thing);
            if (candidates == 0) {
                return NONE;
            }
            int best = 0;
            int fewest = MOST_LOOKS + 2;
            for (int ahead = 0; ahead <= MOST_WATCH_DAY; ahead++) {
                int worst = mostLeft(candidates, home.kind[thing], home.sinceBehind(thing, ahead));
                if (worst < fewest) {
                    fewest = worst;
                    best = ahead;
                }
            }
            return best;
        }

        private boolean agrees(House home, int thing, int looks) {
            for (int i = 0; i < size; i++) {
                if (things[i] == thing
                    && missedBy(home.kind[thing], looks, home.sinceBehind(thing, days[i])) != missed[i]) {
                    return false;
                }
            }
            return true;
        }

        private int mostLeft(int candidates, int kind, int since) {
            for (int i = 0; i < tally.length; i++) {
                tally[i] = 0;
            }
            int most = 0;
            for (int looks = 0; looks <= MOST_LOOKS; looks++) {
                if (isIn(candidates, looks)) {
                    int answer = missedBy(kind, looks, since);
                    tally[answer]++;
                    most = Math.max(most, tally[answer]);
                }
            }
            return most;
        }
    }

    /** SIEGE: all ways to touch, day by day, in the order of their numbers. */
    private static final class Siege {
        private final House trial = new House();
        private final int[] tried = new int[MOST_SIEGE_DAYS];
        private final int[] best = new int[MOST_SIEGE_DAYS];
        private int length;
        int worth;
        int missed;

        void search(House home, int days) {
            trial.copyFrom(home);
            length = Math.min(days, MOST_SIEGE_DAYS);
            worth = MOST_THINGS * MOST_WORTH + 1;
            missed = NONE;
            tryDay(0, 0);
        }

        int touchedOn(int index) {
            return index >= 0 && index < length ? best[index] : NONE;
        }

        private void tryDay(int gone, int lost) {
            if (gone >= length) {
                keepIfBetter(lost);
                return;
            }
            for (int thing = 0; thing < trial.size; thing++) {
                if (isIn(trial.taken, thing)) {
                    continue;
                }
                int looks = trial.looks[thing];
                int since = trial.since[thing];
                trial.lookAt(thing, gone);
                tried[gone] = thing;
                endDay(gone + 1, lost);
                trial.looks[thing] = looks;
                trial.since[thing] = since;
            }
            tried[gone] = NO_TOUCH;
            endDay(gone + 1, lost);
        }

        private void endDay(int gone, int lost) {
            int thing = trial.wouldTake(gone);
            if (thing == NONE) {
                tryDay(gone, lost);
                return;
            }
            int more = lost + trial.worth[thing];
            if (more > worth) {
                return; // what is lost only grows: nothing behind this can be better
            }
            int taken = trial.taken;
            int debt = trial.debt;
            trial.haveAway(thing);
            tryDay(gone, more);
            trial.taken = taken;
            trial.debt = debt;
        }

        private void keepIfBetter(int lost) {
            int left = trial.missedOf(~trial.taken, length);
            if (lost < worth || (lost == worth && left > missed)) {
                worth = lost;
                missed = left;
                System.arraycopy(tried, 0, best, 0, length);
            }
        }
    }

    /** MAKE UP: all that could be given, in the order of their bits. */
    private static final class Offer {
        int missed;
        int worth;
        int which;

        void search(House home) {
            missed = NONE;
            worth = NONE;
            which = NONE;
            for (int bits = 0; bits < 1 << home.size; bits++) {
                int given = home.worthOf(bits);
                if ((bits & home.taken) == 0 && given >= home.debt) {
                    keepIfBetter(bits, given, home.missedOf(bits, 0));
                }
            }
        }

        private void keepIfBetter(int bits, int given, int lost) {
            if (which == NONE || lost < missed || (lost == missed && given < worth)) {
                missed = lost;
                worth = given;
                which = bits;
            }
        }
    }

    /** ODDS: all ways that a child can go about. */
    private static final class Child {
        private final House trial = new House();
        private int length;
        private int wanted;

        int waysTo(House home, int thing, int days) {
            trial.copyFrom(home);
            length = Math.min(days, MOST_CHILD_DAYS);
            wanted = thing;
            return waysFrom(0);
        }

        private int waysFrom(int gone) {
            if (gone >= length) {
                return trial.wouldTake(gone) == wanted ? 1 : 0;
            }
            int ways = 0;
            for (int thing = 0; thing < trial.size; thing++) {
                if (isIn(trial.taken, thing)) {
                    continue;
                }
                int looks = trial.looks[thing];
                int since = trial.since[thing];
                trial.lookAt(thing, gone);
                ways += waysFrom(gone + 1);
                trial.looks[thing] = looks;
                trial.since[thing] = since;
            }
            return ways;
        }
    }

    /** SALE: for each set of buyers that are served, the most that the things not yet sold can bring. */
    private static final class Auction {
        private final int[] most = new int[1 << MOST_THINGS];
        private final int[] sold = new int[MOST_THINGS];
        private int size;

        int mostOf(House home) {
            size = 0;
            for (int thing = 0; thing < home.size; thing++) {
                if (isIn(home.taken, thing)) {
                    sold[size] = thing;
                    size++;
                }
            }
            for (int served = (1 << home.size) - 1; served >= 0; served--) {
                most[served] = mostBehind(home, served);
            }
            return most[0];
        }

        int buyerOf(House home, int thing) {
            mostOf(home);
            int served = 0;
            for (int i = 0; i < size; i++) {
                int buyer = firstBuyer(home, served, sold[i]);
                if (sold[i] == thing) {
                    return buyer;
                }
                served |= 1 << buyer;
            }
            return NONE;
        }

        private int mostBehind(House home, int served) {
            int place = Integer.bitCount(served);
            int best = 0;
            for (int buyer = 0; buyer < home.size && place < size; buyer++) {
                if (!isIn(served, buyer)) {
                    best = Math.max(best, wanted(home, sold[place], buyer) + most[served | 1 << buyer]);
                }
            }
            return best;
        }

        /** There always is one, as most[served] was made from one of them. */
        private int firstBuyer(House home, int served, int thing) {
            for (int buyer = 0; buyer < home.size; buyer++) {
                if (!isIn(served, buyer)
                    && wanted(home, thing, buyer) + most[served | 1 << buyer] == most[served]) {
                    return buyer;
                }
            }
            return 0;
        }

        private static int wanted(House home, int thing, int buyer) {
            return buyer == thing ? home.looks[thing] : Math.abs(buyer - thing);
        }
    }

    /** MONTHS: days as they would be by a seed. */
    private static final class Calendar {
        private final House trial = new House();
        int worth;
        int debt;
        int seed;

        void goThrough(House home, int days, int firstSeed) {
            trial.copyFrom(home);
            worth = 0;
            seed = firstSeed;
            for (int gone = 0; gone < days; gone++) {
                int drawn = draw(trial.size + 1);
                if (trial.has(drawn) && !isIn(trial.taken, drawn)) {
                    trial.lookAt(drawn, gone);
                }
                if ((home.days + gone + 1) % DAYS_TO_TAKING == 0) {
                    haveNext(gone + 1);
                }
            }
            debt = trial.debt;
        }

        private void haveNext(int ahead) {
            int thing = trial.wouldTake(ahead);
            if (thing != NONE) {
                worth += trial.worth[thing];
                trial.haveAway(thing);
            }
        }

        /** Only for 1 or more. */
        private int draw(int of) {
            seed = (int) ((1103515245L * seed + 12345L) % 2147483648L);
            return of > 0 ? seed / 65536 % of : NONE;
        }
    }
}
