import java.util.ArrayList;
import java.util.HashMap;
import java.util.List;
import java.util.Map;
import java.util.regex.Matcher;
import java.util.regex.Pattern;

/**
 * The document once more, in other ways than the program's: every trial is a copy that is lived through
 * day by day, every choice is tried whole, a house is a pattern.
 */
final class Oracle {
    private static final int NONE = -1, UNKNOWN = -101, OUTSIDE = -102, STATE = -103, FULL = -104;
    private static final Pattern HOUSE = Pattern.compile("[tcups][1-9][0-9](,[tcups][1-9][0-9]){1,6};[0-9][0-9]");

    private static final class Thing {
        int kind, worth, looks, since;
        boolean taken;

        Thing copy() {
            Thing other = new Thing();
            other.kind = kind;
            other.worth = worth;
            other.looks = looks;
            other.since = since;
            other.taken = taken;
            return other;
        }

        int missed() {
            int by = kind == 0 ? looks - since
                : kind == 1 ? looks - since - since
                : kind == 2 ? looks
                : kind == 3 ? (looks - looks % 2) / 2 - since
                : looks - since - since - since - since;
            return by < 0 ? 0 : by;
        }
    }

    private static final class World {
        final List<Thing> things = new ArrayList<>();
        final List<int[]> seen = new ArrayList<>();
        int debt, day, touched;

        World copy() {
            World other = new World();
            for (Thing thing : things) {
                other.things.add(thing.copy());
            }
            other.seen.addAll(seen);
            other.debt = debt;
            other.day = day;
            other.touched = touched;
            return other;
        }

        void touch(int thing) {
            Thing t = things.get(thing);
            t.looks = t.looks == 20 ? 20 : t.looks + 1;
            t.since = 0;
            touched++;
        }

        void day() {
            day++;
            for (Thing t : things) {
                if (!t.taken && t.since < 20) {
                    t.since++;
                }
            }
        }

        World behind(int days) {
            World then = copy();
            for (int i = 0; i < days; i++) {
                then.day();
            }
            return then;
        }

        int would() {
            int which = NONE;
            for (int i = things.size() - 1; i >= 0 && debt > 0; i--) {
                Thing t = things.get(i);
                if (!t.taken && (which == NONE || t.missed() <= things.get(which).missed())) {
                    which = i;
                }
            }
            return which;
        }

        /** How much worth was taken. */
        int take() {
            int which = would();
            if (which == NONE) {
                return 0;
            }
            Thing t = things.get(which);
            t.taken = true;
            debt = t.worth > debt ? 0 : debt - t.worth;
            return t.worth;
        }

        int missedLeft() {
            return things.stream().filter(t -> !t.taken).mapToInt(Thing::missed).sum();
        }

        int worthOf(boolean taken) {
            return things.stream().filter(t -> t.taken == taken).mapToInt(t -> t.worth).sum();
        }
    }

    private String page = "";
    private World world = new World();
    private World image = null;
    private int read = 0;
    private int sales = 0;

    int letter(int code) {
        if (code <= 0 || code >= 127) {
            return OUTSIDE;
        }
        if (page.length() == 32) {
            return FULL;
        }
        page = page + (char) code;
        return page.length();
    }

    int blank() {
        int had = page.length();
        page = "";
        return had;
    }

    int fault() {
        for (int length = 1; length <= page.length(); length++) {
            Matcher matcher = HOUSE.matcher(page.substring(0, length));
            if (!matcher.matches() && !matcher.hitEnd()) {
                return length - 1;
            }
        }
        return page.length();
    }

    int house() {
        if (!HOUSE.matcher(page).matches()) {
            return STATE;
        }
        String[] halves = page.split(";");
        world = new World();
        for (String text : halves[0].split(",")) {
            Thing t = new Thing();
            t.kind = "tcups".indexOf(text.charAt(0));
            t.worth = Integer.parseInt(text.substring(1, 2));
            t.looks = Integer.parseInt(text.substring(2, 3));
            world.things.add(t);
        }
        world.debt = Integer.parseInt(halves[1]);
        image = null;
        page = "";
        read++;
        return world.things.size();
    }

    private boolean none() {
        return world.things.isEmpty();
    }

    private boolean unknown(int thing) {
        return thing < 0 || thing >= world.things.size();
    }

    int thing(int thing, int what) {
        if (unknown(thing)) {
            return UNKNOWN;
        }
        Thing t = world.things.get(thing);
        return switch (what) {
            case 0 -> t.kind;
            case 1 -> t.worth;
            case 2 -> t.looks;
            case 3 -> t.since;
            case 4 -> t.missed();
            case 5 -> t.taken ? 1 : 0;
            case 6 -> looksOf(thing).stream().mapToInt(looks -> 1 << looks).sum();
            case 7 -> watch(thing);
            case 8 -> bestSale()[1 + thing];
            default -> OUTSIDE;
        };
    }

    private int missedBehind(int thing, int looks, int days) {
        World trial = world.copy();
        trial.things.get(thing).looks = looks;
        return trial.behind(days).things.get(thing).missed();
    }

    private List<Integer> looksOf(int thing) {
        List<Integer> can = new ArrayList<>();
        for (int looks = 0; looks <= 20; looks++) {
            int candidate = looks;
            if (world.seen.stream().allMatch(s -> s[0] != thing || missedBehind(thing, candidate, s[1]) == s[2])) {
                can.add(looks);
            }
        }
        return can;
    }

    private int watch(int thing) {
        List<Integer> can = looksOf(thing);
        int best = NONE;
        int fewest = Integer.MAX_VALUE;
        for (int days = 0; days <= 9 && !can.isEmpty(); days++) {
            Map<Integer, Integer> left = new HashMap<>();
            for (int looks : can) {
                left.merge(missedBehind(thing, looks, days), 1, Integer::sum);
            }
            int worst = left.values().stream().mapToInt(n -> n).max().orElse(0);
            if (worst < fewest) {
                fewest = worst;
                best = days;
            }
        }
        return best;
    }

    int as(int thing, int kind) {
        if (unknown(thing)) {
            return UNKNOWN;
        }
        if (kind < 0 || kind > 4) {
            return OUTSIDE;
        }
        String kinds = new String[] {"0", "01", "02", "03", "014"}[world.things.get(thing).kind];
        return kinds.indexOf('0' + kind) >= 0 ? thing : NONE;
    }

    int touch(int thing) {
        if (unknown(thing)) {
            return UNKNOWN;
        }
        if (world.things.get(thing).taken) {
            return STATE;
        }
        world.touch(thing);
        return world.things.get(thing).missed();
    }

    int day() {
        if (none()) {
            return STATE;
        }
        world.day();
        return world.day;
    }

    int take() {
        int which = none() ? NONE : world.would();
        world.take();
        return which == NONE ? STATE : which;
    }

    int redeem(int thing) {
        if (unknown(thing)) {
            return UNKNOWN;
        }
        Thing t = world.things.get(thing);
        if (!t.taken) {
            return STATE;
        }
        if (world.debt + t.worth >= 100) {
            return FULL;
        }
        t.taken = false;
        world.debt += t.worth;
        return world.debt;
    }

    int borrow(int more) {
        if (more < 1 || more > 50) {
            return OUTSIDE;
        }
        if (none()) {
            return STATE;
        }
        if (world.debt + more >= 100) {
            return FULL;
        }
        world.debt += more;
        return world.debt;
    }

    int change(int thing, int kind, int worth) {
        if (unknown(thing)) {
            return UNKNOWN;
        }
        if (kind < 0 || kind > 4 || worth < 1 || worth > 9) {
            return OUTSIDE;
        }
        Thing t = world.things.get(thing);
        int was = t.kind;
        t.kind = kind;
        t.worth = worth;
        return was;
    }

    int next(int days) {
        if (days < 0 || days > 20) {
            return OUTSIDE;
        }
        return none() ? STATE : world.behind(days).would();
    }

    int siege(int days, int what) {
        if (days < 1 || days > 4 || !List.of(0, 1, 10, 11, 12, 13).contains(what)) {
            return OUTSIDE;
        }
        if (none()) {
            return STATE;
        }
        int bestWorth = Integer.MAX_VALUE;
        int bestMissed = 0;
        String best = "";
        for (int code = 0; code < 1 << 3 * days; code++) {
            String touches = Integer.toOctalString(1 << 3 * days | code).substring(1);
            World trial = world.copy();
            int worth = lived(trial, touches);
            if (worth >= 0 && (worth < bestWorth || worth == bestWorth && trial.missedLeft() > bestMissed)) {
                bestWorth = worth;
                bestMissed = trial.missedLeft();
                best = touches;
            }
        }
        return what == 0 ? bestWorth : what == 1 ? bestMissed : what - 10 < days ? best.charAt(what - 10) - '0' : NONE;
    }

    /** How much worth was taken; NONE, if they cannot be touched so. */
    private static int lived(World trial, String touches) {
        int worth = 0;
        for (char digit : touches.toCharArray()) {
            int thing = digit - '0';
            if (thing != 7 && (thing >= trial.things.size() || trial.things.get(thing).taken)) {
                return NONE;
            }
            if (thing != 7) {
                trial.touch(thing);
            }
            trial.day();
            worth += trial.take();
        }
        return worth;
    }

    int makeUp(int what) {
        if (what < 0 || what > 2) {
            return OUTSIDE;
        }
        if (none()) {
            return STATE;
        }
        List<int[]> offers = new ArrayList<>();
        for (int bits = 0; bits < 1 << world.things.size(); bits++) {
            int[] offer = {0, 0, bits};
            boolean can = true;
            for (int i = 0; i < world.things.size(); i++) {
                if ((bits & 1 << i) != 0) {
                    Thing t = world.things.get(i);
                    can &= !t.taken;
                    offer[0] += t.missed();
                    offer[1] += t.worth;
                }
            }
            if (can && offer[1] >= world.debt) {
                offers.add(offer);
            }
        }
        offers.sort((a, b) -> a[0] != b[0] ? a[0] - b[0] : a[1] != b[1] ? a[1] - b[1] : a[2] - b[2]);
        return offers.isEmpty() ? NONE : offers.get(0)[what];
    }

    int odds(int thing, int days, int what) {
        if (unknown(thing)) {
            return UNKNOWN;
        }
        if (days < 1 || days > 3 || what < 0 || what > 1) {
            return OUTSIDE;
        }
        if (world.things.get(thing).taken) {
            return STATE;
        }
        List<World> ends = List.of(world);
        for (int i = 0; i < days; i++) {
            List<World> later = new ArrayList<>();
            for (World w : ends) {
                for (int t = 0; t < w.things.size(); t++) {
                    if (!w.things.get(t).taken) {
                        World trial = w.copy();
                        trial.touch(t);
                        trial.day();
                        later.add(trial);
                    }
                }
            }
            ends = later;
        }
        int above = (int) ends.stream().filter(w -> w.would() == thing).count();
        int below = ends.size();
        int a = below;
        int b = above;
        while (b != 0) {
            int rest = a % b;
            a = b;
            b = rest;
        }
        return what == 0 ? above / a : below / a;
    }

    int sale() {
        if (none() || sales == 16) {
            return STATE;
        }
        sales++;
        return bestSale()[0];
    }

    private int[] bestSale() {
        int[] best = new int[1 + world.things.size()];
        best[0] = -1;
        int[] buyers = new int[world.things.size()];
        sell(0, buyers, 0, 0, best);
        return best;
    }

    private void sell(int thing, int[] buyers, int served, int wants, int[] best) {
        if (thing == buyers.length) {
            if (wants > best[0]) {
                best[0] = wants;
                System.arraycopy(buyers, 0, best, 1, buyers.length);
            }
            return;
        }
        Thing t = world.things.get(thing);
        if (!t.taken) {
            buyers[thing] = NONE;
            sell(thing + 1, buyers, served, wants, best);
            return;
        }
        for (int buyer = 0; buyer < buyers.length; buyer++) {
            if ((served & 1 << buyer) == 0) {
                buyers[thing] = buyer;
                int want = buyer == thing ? t.looks : buyer > thing ? buyer - thing : thing - buyer;
                sell(thing + 1, buyers, served | 1 << buyer, wants + want, best);
            }
        }
    }

    int see(int thing, int day, int missed) {
        if (unknown(thing)) {
            return UNKNOWN;
        }
        if (day < 0 || day > 9 || missed < 0 || missed > 20) {
            return OUTSIDE;
        }
        if (world.seen.size() == 6) {
            return FULL;
        }
        world.seen.add(new int[] {thing, day, missed});
        return world.seen.size();
    }

    int forget() {
        int had = world.seen.size();
        world.seen.clear();
        return had;
    }

    int months(int days, int seed, int what) {
        if (days < 1 || days > 60 || seed < 0 || what < 0 || what > 2) {
            return OUTSIDE;
        }
        if (none()) {
            return STATE;
        }
        World trial = world.copy();
        long s = seed;
        int worth = 0;
        for (int i = 0; i < days; i++) {
            s = (s * 1103515245L + 12345L) & 0x7fffffffL;
            int drawn = (int) ((s >> 16) % (trial.things.size() + 1));
            if (drawn < trial.things.size() && !trial.things.get(drawn).taken) {
                trial.touch(drawn);
            }
            trial.day();
            if (trial.day % 5 == 0) {
                worth += trial.take();
            }
        }
        return what == 0 ? worth : what == 1 ? trial.debt : (int) s;
    }

    int image() {
        if (none()) {
            return STATE;
        }
        image = world.copy();
        return world.day;
    }

    int restore() {
        if (image == null) {
            return STATE;
        }
        world = image.copy();
        return world.day;
    }

    int count(int what) {
        return switch (what) {
            case 0 -> world.things.size();
            case 1 -> (int) world.things.stream().filter(t -> t.taken).count();
            case 2 -> world.debt;
            case 3 -> world.day;
            case 4 -> world.worthOf(false);
            case 5 -> world.missedLeft();
            case 6 -> world.touched;
            case 7 -> world.worthOf(true);
            case 8 -> world.seen.size();
            case 9 -> page.length();
            case 10 -> read;
            case 11 -> sales;
            default -> OUTSIDE;
        };
    }

    long digest() {
        List<Integer> numbers = new ArrayList<>();
        for (int thing = 0; thing < world.things.size(); thing++) {
            for (int what = 0; what <= 7; what++) {
                numbers.add(thing(thing, what));
            }
        }
        if (!none()) {
            numbers.addAll(List.of(next(0), next(5), siege(2, 0), siege(2, 1), siege(2, 10), siege(2, 11)));
            numbers.addAll(List.of(makeUp(0), makeUp(1), makeUp(2)));
        }
        page.chars().forEach(numbers::add);
        for (int what = 0; what <= 11; what++) {
            numbers.add(count(what));
        }
        long h = 1259;
        for (int number : numbers) {
            h = 31 * h + number;
        }
        return h;
    }
}
