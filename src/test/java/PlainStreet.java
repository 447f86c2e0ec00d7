import java.math.BigInteger;
import java.util.ArrayList;
import java.util.Arrays;
import java.util.LinkedHashSet;
import java.util.List;
import java.util.Set;

/** The document a second time, slow and plain, for OracleTest: everything is tried out on copies. */
final class PlainStreet {
    static final int NONE = -1;

    static final class State {
        int[] kindness = new int[8];
        List<Integer> homes = new ArrayList<>();
        int gone;
        int snow;
        int last;
        int night;
        long x = 347;
        List<int[]> book = new ArrayList<>();

        State copy() {
            State c = new State();
            c.kindness = kindness.clone();
            c.homes = new ArrayList<>(homes);
            c.gone = gone;
            c.snow = snow;
            c.last = last;
            c.night = night;
            c.x = x;
            c.book = new ArrayList<>(book);
            return c;
        }
    }

    /** A step: the state ahead of it, and how much had been told by then. */
    record Step(State ahead, int told) { }

    /** Something told: a house and its kindness, or a person's house (kindness -1). */
    record Told(int house, int kindness) { }

    static final class World {
        State now = new State();
        List<Step> steps = new ArrayList<>();
        List<Told> told = new ArrayList<>();
        List<PlainLaw> texts = new ArrayList<>();
        int ruling = NONE;
        Integer[] due = new Integer[8];
        List<int[]> said = new ArrayList<>();

        World copy() {
            World w = new World();
            w.now = now.copy();
            w.steps = new ArrayList<>(steps);
            w.told = new ArrayList<>(told);
            w.texts = new ArrayList<>(texts);
            w.ruling = ruling;
            w.due = due.clone();
            w.said = new ArrayList<>(said);
            return w;
        }
    }

    private World world = new World();
    private World image = new World();
    private String tape = "";
    private PlainLaw latest = null;

    private PlainLaw rule() {
        return world.ruling == NONE ? null : world.texts.get(world.ruling);
    }

    private static int held(PlainLaw law, State s, int house) {
        return law == null || law.holds == null ? 0 : (int) Math.max(0, Math.min(9, law.holds.of(s, house)));
    }

    private static int given(PlainLaw law, State s, int house) {
        return law == null || law.gifts == null ? 1 + s.snow : (int) Math.max(0, Math.min(9, law.gifts.of(s, house)));
    }

    private boolean can(State s, int house) {
        return s.kindness[house] >= held(rule(), s, house) + 2;
    }

    private void thankOnce(State s, int house) {
        s.kindness[house] -= 2;
        if (house == 0) {
            s.gone++;
        } else {
            s.kindness[house - 1]++;
        }
        if (house == 7) {
            s.gone++;
        } else {
            s.kindness[house + 1]++;
        }
        for (int p = 0; p < s.homes.size(); p++) {
            if (s.homes.get(p) == house) {
                s.homes.set(p, house == 7 ? NONE : house + 1);
                s.book.add(new int[] {s.night, p, house == 7 ? NONE : house + 1});
                if (s.book.size() > 30) {
                    s.book.remove(0);
                }
            }
        }
    }

    /** The houses thanked, in their order. */
    private List<Integer> settleDown(State s) {
        List<Integer> thanked = new ArrayList<>();
        boolean some = true;
        while (some) {
            some = false;
            for (int house = 0; house < 8 && !some; house++) {
                if (can(s, house)) {
                    thankOnce(s, house);
                    thanked.add(house);
                    some = true;
                }
            }
        }
        return thanked;
    }

    private static int draw(State s, int by) {
        int value = (int) (s.x % by);
        s.x = (s.x * 599 + 463) % 30839;
        return value;
    }

    private void pass(State s) {
        s.snow = draw(s, 10) < 3 ? 1 : 0;
        int house = draw(s, 8);
        int gifts = given(rule(), s, house);
        for (int i = 0; i < gifts; i++) {
            if (s.kindness[house] < 99) {
                s.kindness[house]++;
            }
        }
        s.last = settleDown(s).size();
        s.night++;
    }

    private void step() {
        world.steps.add(new Step(world.now.copy(), world.told.size()));
        if (world.steps.size() > 30) {
            world.steps.remove(0);
        }
    }

    private static boolean house(int h) {
        return h >= 0 && h <= 7;
    }

    private boolean somebody(int p) {
        return p >= 0 && p < world.now.homes.size();
    }

    int person(int h) {
        if (!house(h) || world.now.homes.size() == 5) {
            return NONE;
        }
        world.now.homes.add(h);
        world.told.add(new Told(h, -1));
        return world.now.homes.size() - 1;
    }

    boolean kind(int h, int k) {
        if (!house(h) || k < 0 || k > 40) {
            return false;
        }
        world.now.kindness[h] = k;
        world.told.add(new Told(h, k));
        return true;
    }

    int feed(int a, int b, int c, int d, int e) {
        if (tape.length() > 280) {
            return NONE;
        }
        for (int word : new int[] {a, b, c, d, e}) {
            for (int i = 3; i >= 0; i--) {
                tape += (char) (word >>> 8 * i & 255);
            }
        }
        return tape.length();
    }

    int end(int n) {
        if (n < 0 || n > tape.length()) {
            return NONE;
        }
        tape = tape.substring(0, n);
        return n;
    }

    int text() {
        if (world.texts.size() == 4) {
            return NONE;
        }
        latest = new PlainLaw(tape);
        tape = "";
        if (latest.fault != 0) {
            return NONE;
        }
        world.texts.add(latest);
        return world.texts.size() - 1;
    }

    int fault(int what) {
        if (latest == null) {
            return NONE;
        }
        return what == 0 ? latest.fault : what == 1 ? latest.place : NONE;
    }

    boolean by(int t) {
        if (t < NONE || t >= world.texts.size()) {
            return false;
        }
        world.ruling = t;
        return true;
    }

    boolean good(int h, int n) {
        if (!house(h) || n < 1 || n > 20 || world.now.kindness[h] + n > 99) {
            return false;
        }
        step();
        world.now.kindness[h] += n;
        return true;
    }

    boolean thank(int h) {
        if (!house(h) || !can(world.now, h)) {
            return false;
        }
        step();
        thankOnce(world.now, h);
        return true;
    }

    int settle() {
        State after = world.now.copy();
        int times = settleDown(after).size();
        if (times == 0) {
            return NONE;
        }
        step();
        world.now = after;
        return times;
    }

    private long away(State s) {
        return s.homes.stream().filter(h -> h == NONE).count();
    }

    int night(int n) {
        if (n < 1 || n > 60 || world.now.night + n > 9999) {
            return NONE;
        }
        long before = away(world.now);
        for (int i = 0; i < n; i++) {
            step();
            pass(world.now);
        }
        return (int) (away(world.now) - before);
    }

    int played(int t) {
        if (t < 0 || t >= world.texts.size()) {
            return -2;
        }
        List<PlainLaw.Clause> clauses = world.texts.get(t).clauses;
        for (int i = 0; i < clauses.size(); i++) {
            PlainLaw.Clause c = clauses.get(i);
            boolean done = true;
            switch (c.act()) {
                case "person":
                    done = person(c.first()) != NONE;
                    break;
                case "kind":
                    done = kind(c.second(), c.first());
                    break;
                case "good":
                    done = good(c.second(), c.first());
                    break;
                case "thank":
                    done = thank(c.first());
                    break;
                case "settle":
                    done = settle() != NONE;
                    break;
                case "night":
                    for (int n = 0; n < c.first() && done; n++) {
                        done = night(1) != NONE;
                    }
                    break;
                default:
                    break;
            }
            if (!done) {
                return i;
            }
        }
        return NONE;
    }

    int years(int seed, int n) {
        if (seed < 0 || seed > 9999 || n < 1 || n > 40) {
            return NONE;
        }
        step();
        State s = world.now;
        s.x = seed * 2L + 347;
        for (int i = 0; i < n; i++) {
            int x = draw(s, 1000000);
            int h = x / 6 % 8;
            if (x % 6 < 2) {
                if (s.kindness[h] + 1 + x % 3 <= 99) {
                    s.kindness[h] += 1 + x % 3;
                }
            } else if (x % 6 == 2) {
                if (can(s, h)) {
                    thankOnce(s, h);
                }
            } else if (x % 6 == 3) {
                settleDown(s);
            } else if (s.night < 9999) {
                pass(s);
            }
        }
        return s.night;
    }

    int undo() {
        if (world.steps.isEmpty()) {
            return NONE;
        }
        Step step = world.steps.remove(world.steps.size() - 1);
        world.now = step.ahead().copy();
        for (int i = step.told(); i < world.told.size(); i++) {
            Told told = world.told.get(i);
            if (told.kindness() < 0) {
                world.now.homes.add(told.house());
            } else {
                world.now.kindness[told.house()] = told.kindness();
            }
        }
        return world.steps.size();
    }

    int of(int h, int what) {
        if (!house(h)) {
            return NONE;
        }
        State s = world.now;
        int bits = 0;
        for (int p = 0; p < s.homes.size(); p++) {
            bits += s.homes.get(p) == h ? 1 << p : 0;
        }
        return what == 0 ? s.kindness[h] : what == 1 ? bits : what == 2 ? held(rule(), s, h)
                : what == 3 ? given(rule(), s, h) : what == 4 ? (can(s, h) ? 1 : 0) : NONE;
    }

    int ofPerson(int p) {
        return somebody(p) ? world.now.homes.get(p) : -2;
    }

    int is(int what) {
        State s = world.now;
        int[] all = {s.night, (int) s.x, s.snow, s.gone, s.last, Arrays.stream(s.kindness).sum()};
        return what < 0 || what > 5 ? -2 : all[what];
    }

    int book(int i, int what) {
        if (i == NONE) {
            return world.now.book.size();
        }
        return i < 0 || i >= world.now.book.size() || what < 0 || what > 2 ? -2 : world.now.book.get(i)[what];
    }

    int foretold(int n, int what, int which) {
        if (n < 1 || n > 60 || what < 0 || what > 1 || what == 0 && !house(which) || what == 1 && !somebody(which)) {
            return -2;
        }
        State s = world.now.copy();
        for (int i = 0; i < n; i++) {
            if (s.night < 9999) {
                pass(s);
            }
        }
        return what == 0 ? s.kindness[which] : s.homes.get(which);
    }

    int rest(int h, int what) {
        if (!house(h) || what < 0 || what > 1) {
            return NONE;
        }
        State s = world.now.copy();
        List<Integer> thanked = settleDown(s);
        return what == 0 ? s.kindness[h] : (int) thanked.stream().filter(i -> i == h).count();
    }

    private State rested() {
        State s = world.now.copy();
        settleDown(s);
        return s;
    }

    private List<Integer> ripple(int... houses) {
        State s = rested();
        for (int h : houses) {
            s.kindness[h]++;
        }
        return settleDown(s);
    }

    int wave(int h) {
        return house(h) ? ripple(h).size() : NONE;
    }

    int greatest(boolean which) {
        int best = 0;
        for (int h = 7; h >= 0; h--) {
            best = wave(h) >= wave(best) ? h : best;
        }
        return which ? best : wave(best);
    }

    int reached(int h) {
        return house(h) ? ripple(h).stream().distinct().mapToInt(i -> 1 << i).sum() : NONE;
    }

    int waves(int a, int b) {
        return house(a) && house(b) && a != b ? ripple(a, b).size() : NONE;
    }

    int until(int h, int other) {
        if (!house(h) || !house(other)) {
            return NONE;
        }
        State s = rested();
        for (int n = 1; n <= 100; n++) {
            s.kindness[h]++;
            if (settleDown(s).contains(other)) {
                return n;
            }
        }
        return NONE;
    }

    private int movedBy(int h) {
        State s = rested();
        s.kindness[h]++;
        settleDown(s);
        int moved = 0;
        // A person's moves are those between where it was and where it is; off is one beyond 7.
        State before = rested();
        for (int p = 0; p < s.homes.size(); p++) {
            int from = before.homes.get(p);
            int to = s.homes.get(p) == NONE ? 8 : s.homes.get(p);
            moved += from == NONE ? 0 : to - from;
        }
        return moved;
    }

    int mover(boolean which) {
        int best = 0;
        for (int h = 1; h < 8; h++) {
            best = movedBy(h) > movedBy(best) ? h : best;
        }
        return which ? best : movedBy(best);
    }

    boolean again() {
        State s = rested();
        int[] before = s.kindness.clone();
        s.kindness[0]++;
        s.kindness[7]++;
        settleDown(s);
        return Arrays.equals(before, s.kindness);
    }

    int period(int h, boolean ahead) {
        if (!house(h)) {
            return NONE;
        }
        State s = rested();
        List<String> all = new ArrayList<>();
        all.add(Arrays.toString(s.kindness));
        for (int n = 1; n <= 100; n++) {
            s.kindness[h]++;
            settleDown(s);
            int was = all.indexOf(Arrays.toString(s.kindness));
            if (was >= 0) {
                return ahead ? was : n - was;
            }
            all.add(Arrays.toString(s.kindness));
        }
        return NONE;
    }

    int least(int p, boolean which) {
        if (!somebody(p)) {
            return NONE;
        }
        for (int n = 0; n <= 20; n++) {
            for (int h = 0; h < 8; h++) {
                State s = world.now.copy();
                s.kindness[h] += n;
                if (n > 0 && s.kindness[h] > 99) {
                    continue;
                }
                settleDown(s);
                if (s.homes.get(p) == NONE) {
                    return which ? h : n;
                }
            }
        }
        return NONE;
    }

    private static int digit(int code, int length, int i) {
        return code >> 3 * (length - 1 - i) & 7;
    }

    int meet(int a, int b, int i) {
        if (!somebody(a) || !somebody(b) || a == b) {
            return -2;
        }
        for (int length = 0; length <= 3; length++) {
            for (int code = 0; code < 1 << 3 * length; code++) {
                State s = world.now.copy();
                boolean can = true;
                for (int j = 0; j < length && can; j++) {
                    can = ++s.kindness[digit(code, length, j)] <= 99;
                    if (can) {
                        settleDown(s);
                    }
                }
                if (can && s.homes.get(a) != NONE && s.homes.get(a).equals(s.homes.get(b))) {
                    return i == NONE ? length : i >= 0 && i < length ? digit(code, length, i) : -2;
                }
            }
        }
        return -2;
    }

    int doers(boolean first) {
        List<Integer> ways = new ArrayList<>();
        for (int length = 1; length <= 2; length++) {
            for (int code = 0; code < 1 << 3 * length; code++) {
                State s = world.now.copy();
                s.kindness = image.now.kindness.clone();
                boolean can = true;
                for (int j = 0; j < length && can; j++) {
                    can = ++s.kindness[digit(code, length, j)] <= 99;
                    if (can) {
                        settleDown(s);
                    }
                }
                if (can && Arrays.equals(s.kindness, world.now.kindness)) {
                    ways.add(length == 1 ? code : 10 + 10 * digit(code, 2, 0) + digit(code, 2, 1));
                }
            }
        }
        return !first ? ways.size() : ways.isEmpty() ? NONE : ways.get(0);
    }

    private int odds(int n, boolean low, int p) {
        int hits = 0;
        for (int code = 0; code < 1 << 3 * n; code++) {
            State s = world.now.copy();
            for (int j = 0; j < n; j++) {
                if (s.kindness[digit(code, n, j)] < 99) {
                    s.kindness[digit(code, n, j)]++;
                }
                settleDown(s);
            }
            boolean so = p == NONE ? away(s) == s.homes.size() : !s.homes.get(p).equals(world.now.homes.get(p));
            hits += so ? 1 : 0;
        }
        BigInteger upper = BigInteger.valueOf(hits);
        BigInteger lower = BigInteger.valueOf(1L << 3 * n);
        return (low ? lower : upper).divide(upper.gcd(lower)).intValue();
    }

    int likely(int p, int n, boolean low) {
        return somebody(p) && n >= 1 && n <= 3 ? odds(n, low, p) : NONE;
    }

    int off(int n, boolean low) {
        return n >= 1 && n <= 3 ? odds(n, low, NONE) : NONE;
    }

    boolean need(int h, int due) {
        if (!house(h) || due < NONE || due > 30) {
            return false;
        }
        world.due[h] = due == NONE ? null : due;
        return true;
    }

    /** All walks at once, time by time; the lowest order of those that are done first. */
    private List<Integer> drive(int from) {
        Set<List<Integer>> walks = new LinkedHashSet<>();
        walks.add(List.of(from));
        long wanted = Arrays.stream(world.due).filter(d -> d != null).count();
        for (int time = 0; time <= 40; time++) {
            Set<List<Integer>> here = new LinkedHashSet<>();
            for (List<Integer> walk : walks) {
                int at = walk.get(0);
                List<Integer> order = new ArrayList<>(walk);
                if (world.due[at] != null && !walk.subList(1, walk.size()).contains(at)) {
                    order.add(at);
                    if (world.due[at] < time) {
                        continue;
                    }
                }
                here.add(order);
            }
            List<Integer> best = null;
            for (List<Integer> walk : here) {
                List<Integer> order = walk.subList(1, walk.size());
                if (order.size() == wanted && (best == null || order.toString().compareTo(best.toString()) < 0)) {
                    best = order;
                }
            }
            if (best != null) {
                List<Integer> result = new ArrayList<>(best);
                result.add(0, time);
                return result;
            }
            walks = new LinkedHashSet<>();
            for (List<Integer> walk : here) {
                for (int to : new int[] {walk.get(0) - 1, walk.get(0) + 1}) {
                    if (house(to)) {
                        List<Integer> next = new ArrayList<>(walk);
                        next.set(0, to);
                        walks.add(next);
                    }
                }
            }
        }
        return null;
    }

    int cart(int from) {
        List<Integer> round = house(from) ? drive(from) : null;
        return round == null ? NONE : round.get(0);
    }

    int round(int from, int i) {
        List<Integer> round = house(from) ? drive(from) : null;
        return round == null || i < 0 || i >= round.size() - 1 ? -2 : round.get(i + 1);
    }

    int sick() {
        int bits = 0;
        for (int h = 0; h < 8; h++) {
            bits += world.due[h] != null ? 1 << h : 0;
        }
        return bits;
    }

    int beside(int p) {
        if (!somebody(p)) {
            return NONE;
        }
        int bits = 0;
        List<Integer> homes = world.now.homes;
        for (int q = 0; q < homes.size(); q++) {
            if (q != p && homes.get(p) != NONE && homes.get(q) != NONE && Math.abs(homes.get(p) - homes.get(q)) <= 1) {
                bits |= 1 << q;
            }
        }
        return bits;
    }

    int alone() {
        int bits = 0;
        for (int p = 0; p < world.now.homes.size(); p++) {
            bits |= world.now.homes.get(p) != NONE && beside(p) == 0 ? 1 << p : 0;
        }
        return bits;
    }

    int spread() {
        int far = 0;
        for (int a : world.now.homes) {
            for (int b : world.now.homes) {
                if (a != NONE && b != NONE) {
                    far = Math.max(far, a - b);
                }
            }
        }
        return far;
    }

    int crowded() {
        int best = NONE;
        for (int h = 0; h < 8; h++) {
            int count = Integer.bitCount(of(h, 1));
            if (count > 0 && (best == NONE || count > Integer.bitCount(of(best, 1)))) {
                best = h;
            }
        }
        return best;
    }

    int empty() {
        int bits = 255;
        for (int home : world.now.homes) {
            if (home != NONE) {
                bits &= ~(1 << home);
            }
        }
        return bits;
    }

    int said(int h, int holds) {
        if (h == NONE) {
            world.said.clear();
            return 0;
        }
        if (!house(h) || holds < 0 || holds > 9 || world.said.size() == 8) {
            return -2;
        }
        world.said.add(new int[] {h, holds});
        return world.said.size();
    }

    int whose() {
        int bits = 0;
        for (int t = 0; t < world.texts.size(); t++) {
            PlainLaw law = world.texts.get(t);
            bits |= world.said.stream().allMatch(s -> held(law, world.now, s[0]) == s[1]) ? 1 << t : 0;
        }
        return bits;
    }

    int ready() {
        int bits = 0;
        for (int h = 0; h < 8; h++) {
            bits |= can(world.now, h) ? 1 << h : 0;
        }
        return bits;
    }

    int balance() {
        int[] k = world.now.kindness;
        return k[0] + k[1] + k[2] + k[3] - k[4] - k[5] - k[6] - k[7];
    }

    int middle() {
        double half = is(5) / 2.0;
        int sum = 0;
        for (int h = 0; h < 8 && is(5) > 0; h++) {
            sum += world.now.kindness[h];
            if (sum >= half) {
                return h;
            }
        }
        return NONE;
    }

    int kindest() {
        int max = Arrays.stream(world.now.kindness).max().getAsInt();
        for (int h = 0; h < 8 && max > 0; h++) {
            if (world.now.kindness[h] == max) {
                return h;
            }
        }
        return NONE;
    }

    int travelled() {
        int best = NONE;
        for (int p = world.now.homes.size() - 1; p >= 0; p--) {
            if (ledger(p) > 0 && (best == NONE || ledger(p) >= ledger(best))) {
                best = p;
            }
        }
        return best;
    }

    int ledger(int p) {
        if (p == NONE) {
            return world.now.book.size();
        }
        return somebody(p) ? (int) world.now.book.stream().filter(e -> e[1] == p).count() : -2;
    }

    int image() {
        image = world.copy();
        return world.now.night;
    }

    int back() {
        world = image.copy();
        return world.now.night;
    }

    int about(int what) {
        int[] all = {world.now.homes.size(), world.texts.size(), world.ruling, world.steps.size(), sick(),
            world.said.size(), tape.length()};
        return what < 0 || what > 6 ? -2 : all[what];
    }
}
