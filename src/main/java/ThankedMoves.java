/**
 * A grateful street: eight houses in a row with kindness in them, where who is thanked
 * moves one house along. The document's promises tell what each call does and answers.
 */
public final class ThankedMoves {
    public static final int NONE = -1;

    private static final int WRONG = -2;
    private static final int HOUSES = 8;
    private static final int MOST_PEOPLE = 5;
    private static final int MOST_KINDNESS = 99;
    private static final int MOST_TOLD = 40;
    private static final int MOST_GOOD = 20;
    private static final int MOST_HELD = 9;
    private static final int NIGHTS_AT_ONCE = 60;
    private static final int LAST_NIGHT = 9999;
    private static final int FIRST_X = 347;
    private static final int BOOK_SIZE = 30;
    private static final int MOST_STEPS = 30;
    private static final int MOST_TEXTS = 4;
    private static final int MOST_BYTES = 300;
    private static final int BYTES_A_FEED = 20;
    private static final int MOST_CLAUSES = 24;
    private static final int MOST_OPEN = 8;
    private static final int MOST_SAID = 8;
    private static final int LATEST_DUE = 30;
    private static final int MOST_TRIES = 100;
    private static final int MOST_DRAWS = 3;
    private static final int MOST_MET = 3;
    private static final int MOST_YEARS = 40;
    private static final int MOST_NUMBER = 9999;
    private static final int MOST_WORTH = 1000000;

    // Each thanking lowers the sum of kindness * (house + 1) * (8 - house) by two, so a settling
    // ends by itself; no run of 512 calls can bring together what this many looks would need.
    private static final int MOST_LOOKS = 10000000;

    // The words of the language, each closed by a blank; their order is that of the numbers below.
    private static final String WORDS = "holds gifts person kind good thank settle night at over of house if then else end or and not snow here people left right last ";
    private static final int HOLDS = 0;
    private static final int GIFTS = 1;
    private static final int PERSON = 2;
    private static final int KIND = 3;
    private static final int GOOD = 4;
    private static final int THANK = 5;
    private static final int SETTLE = 6;
    private static final int NIGHT = 7;
    private static final int AT = 8;
    private static final int OVER = 9;
    private static final int OF = 10;
    private static final int HOUSE = 11;
    private static final int IF = 12;
    private static final int THEN = 13;
    private static final int ELSE = 14;
    private static final int END = 15;
    private static final int OR = 16;
    private static final int AND = 17;
    private static final int NOT = 18;
    private static final int SNOW = 19;
    private static final int HERE = 20;
    private static final int PEOPLE = 21;
    private static final int LEFT = 22;
    private static final int RIGHT = 23;
    private static final int LAST = 24;

    // The signs follow the words in the same numbering, in the order in which they stand here.
    private static final String SIGNS = "<>=#+-*/();";
    private static final int LESS = 25;
    private static final int MORE = 26;
    private static final int ALIKE = 27;
    private static final int UNLIKE = 28;
    private static final int PLUS = 29;
    private static final int MINUS = 30;
    private static final int TIMES = 31;
    private static final int DIVIDED = 32;
    private static final int OPEN = 33;
    private static final int CLOSE = 34;
    private static final int STOP = 35;
    private static final int AT_MOST = 36;
    private static final int AT_LEAST = 37;
    private static final int NUMBER = 38;
    private static final int FINISH = 39;
    private static final int UNKNOWN = 40;
    private static final int NEGATED = 41;

    // An instruction of a law is its token and a number in one int: token + OPS * number.
    private static final int OPS = 64;

    // Five pending values at most in each of nine levels (or, and, ask, sum, product).
    private static final int STACK = 64;

    private final Town town = new Town();
    private final Town kept = new Town();
    private final Text[] texts = new Text[MOST_TEXTS];
    private final Text lawless = new Text();
    private final Tape tape = new Tape();
    private final Reader reader = new Reader(tape, lawless);
    private final Street[] levels = new Street[MOST_DRAWS + 1];
    private final int[] path = new int[MOST_MET];
    private final long[] history = new long[MOST_TRIES + 1];
    private final Cart doctor = new Cart();

    public ThankedMoves() {
        for (int i = 0; i < texts.length; i++) {
            texts[i] = new Text();
        }
        for (int i = 0; i < levels.length; i++) {
            levels[i] = new Street();
        }
    }

    // ---- what is told ----

    public int person(int house) {
        if (!isHouse(house) || town.now.people >= MOST_PEOPLE) {
            return NONE;
        }
        town.tellPerson(house);
        return town.now.people - 1;
    }

    public boolean kind(int house, int kind) {
        if (!isHouse(house) || kind < 0 || kind > MOST_TOLD) {
            return false;
        }
        town.tellKindness(house, kind);
        return true;
    }

    public int feed(int a, int b, int c, int d, int e) {
        if (tape.length + BYTES_A_FEED > MOST_BYTES) {
            return NONE;
        }
        tape.addFour(a);
        tape.addFour(b);
        tape.addFour(c);
        tape.addFour(d);
        tape.addFour(e);
        return tape.length;
    }

    public int end(int n) {
        if (n < 0 || n > tape.length) {
            return NONE;
        }
        tape.length = n;
        return n;
    }

    public int text() {
        // Texts behind the image's are the only ones that back() drops, so the slots are shared.
        int slot = town.texts;
        if (slot < 0 || slot >= MOST_TEXTS) {
            return NONE;
        }
        tape.scan();
        boolean whole = reader.readInto(texts[slot]);
        tape.length = 0;
        if (!whole) {
            return NONE;
        }
        town.texts = slot + 1;
        return slot;
    }

    public int fault(int what) {
        if (what == 0) {
            return reader.fault;
        }
        return what == 1 ? reader.place : NONE;
    }

    public boolean by(int text) {
        if (text != NONE && !isText(text)) {
            return false;
        }
        town.ruling = text;
        return true;
    }

    // ---- what is done ----

    public boolean good(int house, int n) {
        if (!isHouse(house) || n < 1 || n > MOST_GOOD || !town.now.takesGood(house, n)) {
            return false;
        }
        town.keepStep();
        town.now.kindness[house] += n;
        return true;
    }

    public boolean thank(int house) {
        if (!isHouse(house) || !town.now.isReady(house, rule())) {
            return false;
        }
        town.keepStep();
        town.now.handOn(house);
        return true;
    }

    public int settle() {
        if (ready() == 0) {
            return NONE;
        }
        town.keepStep();
        return town.now.settleBy(rule());
    }

    public int night(int n) {
        if (n < 1 || n > NIGHTS_AT_ONCE || town.now.night + n > LAST_NIGHT) {
            return NONE;
        }
        int before = town.now.inStreet();
        perform(NIGHT, n, 0);
        return before - town.now.inStreet();
    }

    public int played(int text) {
        if (!isText(text)) {
            return WRONG;
        }
        Text script = texts[text];
        for (int i = 0; i < script.clauses; i++) {
            if (!perform(script.acts[i], script.firsts[i], script.seconds[i])) {
                return i;
            }
        }
        return NONE;
    }

    public int years(int seed, int n) {
        if (seed < 0 || seed > MOST_NUMBER || n < 1 || n > MOST_YEARS) {
            return NONE;
        }
        town.keepStep();
        town.now.x = seed * 2 + FIRST_X;
        for (int i = 0; i < n; i++) {
            town.now.passYear(rule());
        }
        return town.now.night;
    }

    public int undo() {
        if (town.stepCount == 0) {
            return NONE;
        }
        town.takeBack();
        return town.stepCount;
    }

    // ---- what is ----

    public int of(int house, int what) {
        if (!isHouse(house)) {
            return NONE;
        }
        Street now = town.now;
        switch (what) {
            case 0:
                return now.kindness[house];
            case 1:
                return now.peopleIn(house);
            case 2:
                return rule().worth(true, now, house);
            case 3:
                return rule().worth(false, now, house);
            case 4:
                return now.isReady(house, rule()) ? 1 : 0;
            default:
                return NONE;
        }
    }

    public int ofPerson(int person) {
        return isPerson(person) ? town.now.homes[person] : WRONG;
    }

    public int is(int what) {
        Street now = town.now;
        switch (what) {
            case 0:
                return now.night;
            case 1:
                return now.x;
            case 2:
                return now.snow;
            case 3:
                return now.gone;
            case 4:
                return now.last;
            case 5:
                return now.kindnessIn(0, HOUSES);
            default:
                return WRONG;
        }
    }

    public int book(int i, int what) {
        Street now = town.now;
        if (i == NONE) {
            return now.written;
        }
        if (i < 0 || i >= now.written) {
            return WRONG;
        }
        switch (what) {
            case 0:
                return now.nightWritten(i);
            case 1:
                return now.personWritten(i);
            case 2:
                return now.houseWritten(i);
            default:
                return WRONG;
        }
    }

    // ---- what comes ----

    public int foretold(int n, int what, int which) {
        boolean ofHouse = what == 0 && isHouse(which);
        boolean ofSomebody = what == 1 && isPerson(which);
        if (n < 1 || n > NIGHTS_AT_ONCE || !ofHouse && !ofSomebody) {
            return WRONG;
        }
        Street then = levels[0];
        then.take(town.now);
        for (int i = 0; i < n && then.night < LAST_NIGHT; i++) {
            then.passNight(rule());
        }
        return ofHouse ? then.kindness[which] : then.homes[which];
    }

    public int rest(int house, int what) {
        if (!isHouse(house) || what < 0 || what > 1) {
            return NONE;
        }
        Street rested = atRest();
        return what == 0 ? rested.kindness[house] : rested.thanks[house];
    }

    public int wave(int house) {
        if (!isHouse(house)) {
            return NONE;
        }
        return waveOver(atRest(), house).thanksInAll();
    }

    public int greatest(boolean house) {
        Street rested = atRest();
        int best = 0;
        int most = NONE;
        for (int i = 0; i < HOUSES; i++) {
            int times = waveOver(rested, i).thanksInAll();
            if (times > most) {
                most = times;
                best = i;
            }
        }
        return house ? best : most;
    }

    public int reached(int house) {
        if (!isHouse(house)) {
            return NONE;
        }
        Street after = waveOver(atRest(), house);
        int bits = 0;
        for (int i = 0; i < HOUSES; i++) {
            if (after.thanks[i] > 0) {
                bits |= 1 << i;
            }
        }
        return bits;
    }

    public int waves(int a, int b) {
        if (!isHouse(a) || !isHouse(b) || a == b) {
            return NONE;
        }
        return doubleWave(a, b).thanksInAll();
    }

    public int until(int house, int other) {
        if (!isHouse(house) || !isHouse(other)) {
            return NONE;
        }
        Street street = atRest();
        for (int times = 1; times <= MOST_TRIES; times++) {
            street.kindness[house]++;
            street.settleBy(rule());
            if (street.thanks[other] > 0) {
                return times;
            }
        }
        return NONE;
    }

    public int mover(boolean house) {
        Street rested = atRest();
        int best = 0;
        int most = NONE;
        for (int i = 0; i < HOUSES; i++) {
            int moves = waveOver(rested, i).moves;
            if (moves > most) {
                most = moves;
                best = i;
            }
        }
        return house ? best : most;
    }

    public boolean again() {
        return doubleWave(0, HOUSES - 1).isAsKindAs(levels[0]);
    }

    public int period(int house, boolean ahead) {
        if (!isHouse(house)) {
            return NONE;
        }
        Street street = atRest();
        history[0] = street.restKey();
        for (int times = 1; times <= MOST_TRIES; times++) {
            street.kindness[house]++;
            street.settleBy(rule());
            long key = street.restKey();
            for (int i = 0; i < times; i++) {
                if (history[i] == key) {
                    return ahead ? i : times - i;
                }
            }
            history[times] = key;
        }
        return NONE;
    }

    public int least(int person, boolean house) {
        if (!isPerson(person)) {
            return NONE;
        }
        for (int n = 0; n <= MOST_GOOD; n++) {
            // Without any good all houses are alike: the lowest stands for them.
            int houses = n == 0 ? 1 : HOUSES;
            for (int i = 0; i < houses; i++) {
                if (sendsOff(person, i, n)) {
                    return house ? i : n;
                }
            }
        }
        return NONE;
    }

    public int meet(int a, int b, int i) {
        if (!isPerson(a) || !isPerson(b) || a == b || i < NONE || i >= MOST_MET) {
            return WRONG;
        }
        levels[0].take(town.now);
        for (int length = 0; length <= MOST_MET; length++) {
            if (findMeeting(a, b, 0, length)) {
                if (i == NONE) {
                    return length;
                }
                return i < length ? path[i] : WRONG;
            }
        }
        return WRONG;
    }

    public int doers(boolean first) {
        int ways = 0;
        int lowestOne = NONE;
        int lowestTwo = NONE;
        levels[0].take(town.now);
        System.arraycopy(kept.now.kindness, 0, levels[0].kindness, 0, HOUSES);
        for (int one = 0; one < HOUSES; one++) {
            if (!goOn(0, one)) {
                continue;
            }
            if (levels[1].isAsKindAs(town.now)) {
                ways++;
                lowestOne = lowestOne == NONE ? one : lowestOne;
            }
            for (int two = 0; two < HOUSES; two++) {
                if (goOn(1, two) && levels[2].isAsKindAs(town.now)) {
                    ways++;
                    lowestTwo = lowestTwo == NONE ? 10 + 10 * one + two : lowestTwo;
                }
            }
        }
        if (!first) {
            return ways;
        }
        return lowestOne != NONE ? lowestOne : lowestTwo;
    }

    // ---- odds ----

    public int likely(int person, int n, boolean low) {
        if (!isPerson(person) || n < 1 || n > MOST_DRAWS) {
            return NONE;
        }
        levels[0].take(town.now);
        return inLowestTerms(countDraws(person, 0, n), n, low);
    }

    public int off(int n, boolean low) {
        if (n < 1 || n > MOST_DRAWS) {
            return NONE;
        }
        levels[0].take(town.now);
        return inLowestTerms(countDraws(NONE, 0, n), n, low);
    }

    // ---- the cart ----

    public boolean need(int house, int due) {
        if (!isHouse(house) || due < NONE || due > LATEST_DUE) {
            return false;
        }
        town.dues[house] = due;
        return true;
    }

    public int cart(int from) {
        return isHouse(from) ? doctor.plan(town.dues, from) : NONE;
    }

    public int round(int from, int i) {
        if (!isHouse(from) || doctor.plan(town.dues, from) == NONE) {
            return WRONG;
        }
        return i >= 0 && i < doctor.bestCount ? doctor.best[i] : WRONG;
    }

    public int sick() {
        int bits = 0;
        for (int i = 0; i < HOUSES; i++) {
            if (town.dues[i] != NONE) {
                bits |= 1 << i;
            }
        }
        return bits;
    }

    // ---- who is where ----

    public int beside(int person) {
        return isPerson(person) ? town.now.neighbours(person) : NONE;
    }

    public int alone() {
        Street now = town.now;
        int bits = 0;
        for (int p = 0; p < now.people; p++) {
            if (now.homes[p] != NONE && now.neighbours(p) == 0) {
                bits |= 1 << p;
            }
        }
        return bits;
    }

    public int spread() {
        int lowest = NONE;
        int highest = NONE;
        for (int i = 0; i < HOUSES; i++) {
            if (town.now.peopleIn(i) != 0) {
                lowest = lowest == NONE ? i : lowest;
                highest = i;
            }
        }
        return highest - lowest;
    }

    public int crowded() {
        int best = NONE;
        int most = 0;
        for (int i = 0; i < HOUSES; i++) {
            int count = town.now.countIn(i);
            if (count > most) {
                most = count;
                best = i;
            }
        }
        return best;
    }

    public int empty() {
        int bits = 0;
        for (int i = 0; i < HOUSES; i++) {
            if (town.now.peopleIn(i) == 0) {
                bits |= 1 << i;
            }
        }
        return bits;
    }

    // ---- laws and kindness ----

    public int said(int house, int holds) {
        if (house == NONE) {
            town.said = 0;
            return 0;
        }
        if (!isHouse(house) || holds < 0 || holds > MOST_HELD || town.said >= MOST_SAID) {
            return WRONG;
        }
        town.saidHouses[town.said] = house;
        town.saidHolds[town.said] = holds;
        town.said++;
        return town.said;
    }

    public int whose() {
        int bits = 0;
        for (int i = 0; i < town.texts && i < MOST_TEXTS; i++) {
            if (allSaidHolds(texts[i])) {
                bits |= 1 << i;
            }
        }
        return bits;
    }

    public int ready() {
        int bits = 0;
        for (int i = 0; i < HOUSES; i++) {
            if (town.now.isReady(i, rule())) {
                bits |= 1 << i;
            }
        }
        return bits;
    }

    public int balance() {
        return town.now.kindnessIn(0, HOUSES / 2) - town.now.kindnessIn(HOUSES / 2, HOUSES);
    }

    public int middle() {
        int all = town.now.kindnessIn(0, HOUSES);
        if (all == 0) {
            return NONE;
        }
        for (int i = 0; i < HOUSES; i++) {
            if (2 * town.now.kindnessIn(0, i + 1) >= all) {
                return i;
            }
        }
        return NONE;
    }

    public int kindest() {
        int best = NONE;
        int most = 0;
        for (int i = 0; i < HOUSES; i++) {
            if (town.now.kindness[i] > most) {
                most = town.now.kindness[i];
                best = i;
            }
        }
        return best;
    }

    public int travelled() {
        int best = NONE;
        int most = 0;
        for (int p = 0; p < town.now.people; p++) {
            int times = town.now.timesWritten(p);
            if (times > most) {
                most = times;
                best = p;
            }
        }
        return best;
    }

    public int ledger(int person) {
        if (person == NONE) {
            return town.now.written;
        }
        return isPerson(person) ? town.now.timesWritten(person) : WRONG;
    }

    // ---- the image ----

    public int image() {
        kept.takeAll(town);
        return town.now.night;
    }

    public int back() {
        town.takeAll(kept);
        return town.now.night;
    }

    public int about(int what) {
        switch (what) {
            case 0:
                return town.now.people;
            case 1:
                return town.texts;
            case 2:
                return town.ruling;
            case 3:
                return town.stepCount;
            case 4:
                return sick();
            case 5:
                return town.said;
            case 6:
                return tape.length;
            default:
                return WRONG;
        }
    }

    // ---- helpers of the calls ----

    private static boolean isHouse(int house) {
        return house >= 0 && house < HOUSES;
    }

    private boolean isPerson(int person) {
        return person >= 0 && person < town.now.people && person < MOST_PEOPLE;
    }

    private boolean isText(int text) {
        return text >= 0 && text < town.texts && text < MOST_TEXTS;
    }

    private Text rule() {
        return isText(town.ruling) ? texts[town.ruling] : lawless;
    }

    /** Whether a clause of a script could be done whole; laws are passed over. */
    private boolean perform(int act, int first, int second) {
        switch (act) {
            case PERSON:
                return person(first) != NONE;
            case KIND:
                return kind(second, first);
            case GOOD:
                return good(second, first);
            case THANK:
                return thank(first);
            case SETTLE:
                return settle() != NONE;
            case NIGHT:
                for (int i = 0; i < first; i++) {
                    if (town.now.night >= LAST_NIGHT) {
                        return false;
                    }
                    town.keepStep();
                    town.now.passNight(rule());
                }
                return true;
            default:
                return true;
        }
    }

    private Street atRest() {
        Street rested = levels[0];
        rested.take(town.now);
        rested.settleBy(rule());
        return rested;
    }

    private Street waveOver(Street rested, int house) {
        Street after = levels[1];
        after.take(rested);
        after.kindness[house]++;
        after.settleBy(rule());
        return after;
    }

    private Street doubleWave(int a, int b) {
        Street after = levels[1];
        after.take(atRest());
        after.kindness[a]++;
        after.kindness[b]++;
        after.settleBy(rule());
        return after;
    }

    private boolean sendsOff(int person, int house, int n) {
        Street then = levels[0];
        then.take(town.now);
        if (n > 0 && !then.takesGood(house, n)) {
            return false;
        }
        then.kindness[house] += n;
        then.settleBy(rule());
        return then.homes[person] == NONE;
    }

    /** Makes the level behind one from it by a good in a house; false if none can be done. */
    private boolean goOn(int level, int house) {
        if (level + 1 >= levels.length || !levels[level].takesGood(house, 1)) {
            return false;
        }
        Street next = levels[level + 1];
        next.take(levels[level]);
        next.kindness[house]++;
        next.settleBy(rule());
        return true;
    }

    /** Whether two meet by as many houses as are left; the lowest such are in the path then. */
    private boolean findMeeting(int a, int b, int level, int length) {
        if (level >= length) {
            int home = levels[level].homes[a];
            return home != NONE && home == levels[level].homes[b];
        }
        for (int house = 0; house < HOUSES; house++) {
            if (goOn(level, house) && findMeeting(a, b, level + 1, length)) {
                path[level] = house;
                return true;
            }
        }
        return false;
    }

    /** In how many of the draws left the person is elsewhere (NONE: nobody is in the street). */
    private int countDraws(int person, int level, int n) {
        Street here = levels[level];
        if (level >= n || level + 1 >= levels.length) {
            boolean so = person == NONE ? here.inStreet() == 0
                    : here.homes[person] != town.now.homes[person];
            return so ? 1 : 0;
        }
        int count = 0;
        for (int house = 0; house < HOUSES; house++) {
            Street next = levels[level + 1];
            next.take(here);
            if (next.takesGood(house, 1)) {
                next.kindness[house]++;
            }
            next.settleBy(rule());
            count += countDraws(person, level + 1, n);
        }
        return count;
    }

    /** A side of count / 8 to the n; as the lower side is a power of 2, halving is enough. */
    private static int inLowestTerms(int count, int n, boolean low) {
        int upper = count;
        int lower = 1 << 3 * n;
        while (lower > 1 && upper % 2 == 0) {
            upper /= 2;
            lower /= 2;
        }
        return low ? lower : upper;
    }

    private boolean allSaidHolds(Text law) {
        for (int i = 0; i < town.said && i < MOST_SAID; i++) {
            if (law.worth(true, town.now, town.saidHouses[i]) != town.saidHolds[i]) {
                return false;
            }
        }
        return true;
    }

    /** All that a step changes, and so all that taking it back restores. */
    private static final class Street {
        final int[] kindness = new int[HOUSES];
        final int[] homes = new int[MOST_PEOPLE];
        int people = 0;
        int gone = 0;
        int snow = 0;
        int last = 0;
        int night = 0;
        int x = FIRST_X;
        final int[] entries = new int[BOOK_SIZE];
        int written = 0;

        // Counts of the latest settling, for those who ask right behind it: never taken over.
        final int[] thanks = new int[HOUSES];
        int moves = 0;

        void take(Street other) {
            System.arraycopy(other.kindness, 0, kindness, 0, HOUSES);
            System.arraycopy(other.homes, 0, homes, 0, MOST_PEOPLE);
            System.arraycopy(other.entries, 0, entries, 0, BOOK_SIZE);
            people = other.people;
            gone = other.gone;
            snow = other.snow;
            last = other.last;
            night = other.night;
            x = other.x;
            written = other.written;
        }

        void addPerson(int house) {
            if (people < MOST_PEOPLE) {
                homes[people] = house;
                people++;
            }
        }

        boolean takesGood(int house, int n) {
            return kindness[house] + n <= MOST_KINDNESS;
        }

        boolean isReady(int house, Text law) {
            int kind = kindness[house];
            // holds is 0 .. 9 whatever the law says, so it need be asked between these alone.
            if (kind < 2 || kind >= MOST_HELD + 2) {
                return kind >= 2;
            }
            return kind >= law.worth(true, this, house) + 2;
        }

        /** A house is thanked, which must be ready. */
        void handOn(int house) {
            kindness[house] -= 2;
            giveOne(house - 1);
            giveOne(house + 1);
            int to = house + 1 < HOUSES ? house + 1 : NONE;
            for (int p = 0; p < people && p < MOST_PEOPLE; p++) {
                if (homes[p] == house) {
                    homes[p] = to;
                    writeDown(p, to);
                    moves++;
                }
            }
            thanks[house]++;
        }

        private void giveOne(int house) {
            if (isHouse(house)) {
                kindness[house]++;
            } else {
                gone++;
            }
        }

        private void writeDown(int person, int house) {
            if (written >= BOOK_SIZE) {
                System.arraycopy(entries, 1, entries, 0, BOOK_SIZE - 1);
                written = BOOK_SIZE - 1;
            }
            entries[written] = (night * 8 + person) * 16 + house + 1;
            written++;
        }

        int nightWritten(int i) {
            return entries[i] / 128;
        }

        int personWritten(int i) {
            return entries[i] / 16 % 8;
        }

        int houseWritten(int i) {
            return entries[i] % 16 - 1;
        }

        int timesWritten(int person) {
            int times = 0;
            for (int i = 0; i < written && i < BOOK_SIZE; i++) {
                if (personWritten(i) == person) {
                    times++;
                }
            }
            return times;
        }

        /** How many times it was thanked. */
        int settleBy(Text law) {
            for (int i = 0; i < HOUSES; i++) {
                thanks[i] = 0;
            }
            moves = 0;
            int times = 0;
            int house = 0;
            for (int look = 0; look < MOST_LOOKS && house < HOUSES; look++) {
                if (isReady(house, law)) {
                    handOn(house);
                    times++;
                    // Houses farther to the left were not ready, and see nothing that has changed.
                    house = law.looksFar ? 0 : Math.max(0, house - 2);
                } else {
                    house++;
                }
            }
            return times;
        }

        private int drawn() {
            int before = x;
            x = (x * 599 + 463) % 30839;
            return before;
        }

        void passNight(Text law) {
            snow = drawn() % 10 < 3 ? 1 : 0;
            int house = drawn() % HOUSES;
            int more = Math.min(MOST_KINDNESS, kindness[house] + law.worth(false, this, house));
            kindness[house] = Math.max(kindness[house], more);
            last = settleBy(law);
            night++;
        }

        void passYear(Text law) {
            int draw = drawn();
            int house = draw / 6 % HOUSES;
            int n = 1 + draw % 3;
            switch (draw % 6) {
                case 0:
                case 1:
                    kindness[house] += takesGood(house, n) ? n : 0;
                    break;
                case 2:
                    if (isReady(house, law)) {
                        handOn(house);
                    }
                    break;
                case 3:
                    settleBy(law);
                    break;
                default:
                    if (night < LAST_NIGHT) {
                        passNight(law);
                    }
                    break;
            }
        }

        int thanksInAll() {
            int times = 0;
            for (int i = 0; i < HOUSES; i++) {
                times += thanks[i];
            }
            return times;
        }

        /** Kindness of the houses in one number; at rest each has 10 at most, so none are mixed up. */
        long restKey() {
            long key = 0;
            for (int i = 0; i < HOUSES; i++) {
                key = key * 16 + kindness[i];
            }
            return key;
        }

        boolean isAsKindAs(Street other) {
            for (int i = 0; i < HOUSES; i++) {
                if (kindness[i] != other.kindness[i]) {
                    return false;
                }
            }
            return true;
        }

        int kindnessIn(int from, int to) {
            int sum = 0;
            for (int i = Math.max(from, 0); i < to && i < HOUSES; i++) {
                sum += kindness[i];
            }
            return sum;
        }

        int kindnessOf(int house) {
            return house >= 0 && house < HOUSES ? kindness[house] : 0;
        }

        /** The people in a house, as bits. */
        int peopleIn(int house) {
            int bits = 0;
            for (int p = 0; p < people && p < MOST_PEOPLE; p++) {
                if (homes[p] == house) {
                    bits |= 1 << p;
                }
            }
            return bits;
        }

        int countIn(int house) {
            int count = 0;
            for (int p = 0; p < people && p < MOST_PEOPLE; p++) {
                if (homes[p] == house) {
                    count++;
                }
            }
            return count;
        }

        int inStreet() {
            return people - countIn(NONE);
        }

        /** The others in a person's house or in one beside it, as bits. */
        int neighbours(int person) {
            int home = homes[person];
            if (home == NONE) {
                return 0;
            }
            int bits = peopleIn(home) | peopleIn(home + 1);
            if (home > 0) {
                bits |= peopleIn(home - 1);
            }
            return bits & ~(1 << person);
        }
    }

    /** All that an image holds. */
    private static final class Town {
        final Street now = new Street();
        final Street[] steps = new Street[MOST_STEPS];
        int stepCount = 0;
        final int[] dues = new int[HOUSES];
        final int[] saidHouses = new int[MOST_SAID];
        final int[] saidHolds = new int[MOST_SAID];
        int said = 0;
        int texts = 0;
        int ruling = NONE;

        Town() {
            for (int i = 0; i < steps.length; i++) {
                steps[i] = new Street();
            }
            for (int i = 0; i < HOUSES; i++) {
                dues[i] = NONE;
            }
        }

        void takeAll(Town other) {
            now.take(other.now);
            stepCount = other.stepCount;
            for (int i = 0; i < stepCount && i < MOST_STEPS; i++) {
                steps[i].take(other.steps[i]);
            }
            System.arraycopy(other.dues, 0, dues, 0, HOUSES);
            System.arraycopy(other.saidHouses, 0, saidHouses, 0, MOST_SAID);
            System.arraycopy(other.saidHolds, 0, saidHolds, 0, MOST_SAID);
            said = other.said;
            texts = other.texts;
            ruling = other.ruling;
        }

        /** What is told holds in the kept steps too, so that undo leaves it as told. */
        void tellKindness(int house, int kind) {
            now.kindness[house] = kind;
            for (int i = 0; i < stepCount && i < MOST_STEPS; i++) {
                steps[i].kindness[house] = kind;
            }
        }

        void tellPerson(int house) {
            now.addPerson(house);
            for (int i = 0; i < stepCount && i < MOST_STEPS; i++) {
                steps[i].addPerson(house);
            }
        }

        void keepStep() {
            if (stepCount >= MOST_STEPS) {
                Street eldest = steps[0];
                for (int i = 1; i < MOST_STEPS; i++) {
                    steps[i - 1] = steps[i];
                }
                steps[MOST_STEPS - 1] = eldest;
                stepCount = MOST_STEPS - 1;
            }
            steps[stepCount].take(now);
            stepCount++;
        }

        void takeBack() {
            if (stepCount > 0) {
                stepCount--;
                now.take(steps[stepCount]);
            }
        }
    }

    /** The rounds of a doctor's cart. */
    private static final class Cart {
        final int[] best = new int[HOUSES];
        int bestCount = 0;
        int bestTime = NONE;
        private final int[] order = new int[HOUSES];
        private int count = 0;

        /** When the cart is done at the least (NONE: it can't); the lowest such round is kept. */
        int plan(int[] dues, int from) {
            int lowest = from;
            int highest = from;
            for (int i = 0; i < HOUSES; i++) {
                if (dues[i] != NONE) {
                    lowest = Math.min(lowest, i);
                    highest = Math.max(highest, i);
                }
            }
            bestTime = NONE;
            bestCount = 0;
            int steps = highest - lowest;
            // Where it comes to a new house it is at an end of those that it knows: a round is
            // a choice of left (1) or right (0) for each new house.
            for (int turns = 0; turns < 1 << steps; turns++) {
                if (Integer.bitCount(turns) == from - lowest) {
                    int time = drive(dues, from, turns, steps);
                    if (time != NONE && isBetter(time)) {
                        keep(time);
                    }
                }
            }
            return bestTime;
        }

        /** When the cart is at the last new house (NONE: it is late somewhere). */
        private int drive(int[] dues, int from, int turns, int steps) {
            int left = from;
            int right = from;
            int at = from;
            int time = 0;
            count = 0;
            visit(dues, from);
            for (int i = 0; i < steps; i++) {
                int to = (turns >> i & 1) == 1 ? left - 1 : right + 1;
                if (!isHouse(to)) {
                    return NONE;
                }
                time += Math.abs(to - at);
                at = to;
                left = Math.min(left, to);
                right = Math.max(right, to);
                if (dues[to] != NONE && dues[to] < time) {
                    return NONE;
                }
                visit(dues, to);
            }
            return time;
        }

        private void visit(int[] dues, int house) {
            if (dues[house] != NONE && count < HOUSES) {
                order[count] = house;
                count++;
            }
        }

        private boolean isBetter(int time) {
            if (bestTime == NONE || time != bestTime) {
                return bestTime == NONE || time < bestTime;
            }
            for (int i = 0; i < count && i < bestCount; i++) {
                if (order[i] != best[i]) {
                    return order[i] < best[i];
                }
            }
            return false;
        }

        private void keep(int time) {
            bestTime = time;
            bestCount = count;
            System.arraycopy(order, 0, best, 0, HOUSES);
        }
    }

    /** A text that was read: its laws as instructions behind their operands, and its clauses. */
    private static final class Text {
        final int[] code = new int[MOST_BYTES];
        int length = 0;
        int holdsFrom = NONE;
        int holdsTo = NONE;
        int giftsFrom = NONE;
        int giftsTo = NONE;
        final int[] acts = new int[MOST_CLAUSES];
        final int[] firsts = new int[MOST_CLAUSES];
        final int[] seconds = new int[MOST_CLAUSES];
        int clauses = 0;

        // Whether holds may ask for the kindness of any house, not of its own and those beside alone.
        boolean looksFar = false;
        private final int[] stack = new int[STACK];

        void clear() {
            length = 0;
            clauses = 0;
            looksFar = false;
            holdsFrom = NONE;
            giftsFrom = NONE;
        }

        void addClause(int act, int first, int second) {
            if (clauses < MOST_CLAUSES) {
                acts[clauses] = act;
                firsts[clauses] = first;
                seconds[clauses] = second;
                clauses++;
            }
        }

        /** The place of the new instruction; a token makes one at most, so there is room. */
        int emit(int op, int value) {
            if (length >= code.length) {
                return NONE;
            }
            code[length] = op + OPS * value;
            length++;
            return length - 1;
        }

        /** Lets the jump at a place lead to what comes next. */
        void landHere(int place) {
            if (place >= 0 && place < length) {
                code[place] = code[place] % OPS + OPS * length;
            }
        }

        /** What a law says of a house, 0 .. 9. */
        int worth(boolean ofHolds, Street street, int house) {
            int from = ofHolds ? holdsFrom : giftsFrom;
            int to = Math.min(length, ofHolds ? holdsTo : giftsTo);
            if (from < 0) {
                return ofHolds ? 0 : 1 + street.snow;
            }
            int top = 0;
            for (int i = from; i < to; i++) {
                int op = code[i] % OPS;
                int value = code[i] / OPS;
                int taken = operands(op);
                if (top < taken || top - taken >= STACK) {
                    return 0;
                }
                int b = taken > 0 ? stack[top - 1] : 0;
                int a = taken > 1 ? stack[top - 2] : 0;
                top -= taken;
                if (op == IF || op == ELSE) {
                    if (op == ELSE || b == 0) {
                        i = Math.max(i, value - 1);
                    }
                    continue;
                }
                long result = taken == 2 ? joined(op, a, b)
                        : taken == 1 ? changed(op, b, street)
                        : named(op, value, street, house);
                stack[top] = (int) Math.max(-MOST_WORTH, Math.min(MOST_WORTH, result));
                top++;
            }
            return top > 0 ? Math.max(0, Math.min(MOST_HELD, stack[top - 1])) : 0;
        }

        private static int operands(int op) {
            switch (op) {
                case NUMBER:
                case NIGHT:
                case SNOW:
                case HERE:
                case KIND:
                case PEOPLE:
                case LEFT:
                case RIGHT:
                case LAST:
                case ELSE:
                    return 0;
                case IF:
                case NEGATED:
                case NOT:
                case HOUSE:
                    return 1;
                default:
                    return 2;
            }
        }

        private static long named(int op, int value, Street street, int house) {
            switch (op) {
                case NIGHT:
                    return street.night;
                case SNOW:
                    return street.snow;
                case HERE:
                    return house;
                case KIND:
                    return street.kindnessOf(house);
                case PEOPLE:
                    return street.countIn(house);
                case LEFT:
                    return street.kindnessOf(house - 1);
                case RIGHT:
                    return street.kindnessOf(house + 1);
                case LAST:
                    return street.last;
                default:
                    return value;
            }
        }

        private static long changed(int op, int b, Street street) {
            if (op == HOUSE) {
                return street.kindnessOf(b);
            }
            if (op == NOT) {
                return b == 0 ? 1 : 0;
            }
            return -b;
        }

        private static long joined(int op, long a, long b) {
            switch (op) {
                case PLUS:
                    return a + b;
                case MINUS:
                    return a - b;
                case TIMES:
                    return a * b;
                case DIVIDED:
                    return b == 0 ? 0 : a / b;
                case OVER:
                    return Math.max(0, a - b);
                case AND:
                    return a & b;
                case OR:
                    return a | b;
                case LESS:
                    return a < b ? 1 : 0;
                case AT_MOST:
                    return a <= b ? 1 : 0;
                case MORE:
                    return a > b ? 1 : 0;
                case AT_LEAST:
                    return a >= b ? 1 : 0;
                case ALIKE:
                    return a == b ? 1 : 0;
                default:
                    return a != b ? 1 : 0;
            }
        }
    }

    /** The bytes that were fed, and the tokens in them. */
    private static final class Tape {
        private final int[] bytes = new int[MOST_BYTES];
        int length = 0;

        // One token more than bytes: the end is one too, at the length.
        final int[] tokens = new int[MOST_BYTES + 1];
        final int[] starts = new int[MOST_BYTES + 1];
        final int[] numbers = new int[MOST_BYTES + 1];
        int count = 0;
        private int at = 0;

        void addFour(int four) {
            for (int shift = 24; shift >= 0 && length < MOST_BYTES; shift -= 8) {
                bytes[length] = four >> shift & 255;
                length++;
            }
        }

        void scan() {
            at = 0;
            count = 0;
            for (int i = 0; i < MOST_BYTES && at < length; i++) {
                int first = bytes[at];
                if (first == ' ' || first == '\n') {
                    at++;
                } else if (isLetter(first)) {
                    scanWord();
                } else if (isDigit(first)) {
                    scanNumber();
                } else {
                    scanSign();
                }
            }
            add(FINISH, length, 0);
        }

        private void add(int token, int start, int number) {
            if (count < tokens.length) {
                tokens[count] = token;
                starts[count] = start;
                numbers[count] = number;
                count++;
            }
        }

        private static boolean isLetter(int sign) {
            return sign >= 'a' && sign <= 'z' || sign >= 'A' && sign <= 'Z';
        }

        private static boolean isDigit(int sign) {
            return sign >= '0' && sign <= '9';
        }

        private void scanWord() {
            int start = at;
            while (at < length && isLetter(bytes[at])) {
                at++;
            }
            int token = UNKNOWN;
            int word = 0;
            int begin = 0;
            for (int i = 0; i < WORDS.length() && token == UNKNOWN; i++) {
                if (WORDS.charAt(i) == ' ') {
                    if (i - begin == at - start && isSpelt(start, begin)) {
                        token = word;
                    }
                    word++;
                    begin = i + 1;
                }
            }
            add(token, start, 0);
        }

        /** Whether the letters from start to here are those of WORDS from begin on. */
        private boolean isSpelt(int start, int begin) {
            for (int i = 0; start + i < at && begin + i < WORDS.length(); i++) {
                if (bytes[start + i] != WORDS.charAt(begin + i)) {
                    return false;
                }
            }
            return true;
        }

        private void scanNumber() {
            int start = at;
            int number = 0;
            while (at < length && isDigit(bytes[at])) {
                // Held just above the highest number, so that no row of digits wraps around.
                number = Math.min(number * 10 + bytes[at] - '0', MOST_NUMBER + 1);
                at++;
            }
            add(NUMBER, start, number);
        }

        private void scanSign() {
            int start = at;
            int sign = SIGNS.indexOf((char) bytes[at]);
            int token = sign < 0 ? UNKNOWN : LESS + sign;
            at++;
            if (at < length && bytes[at] == '=' && (token == LESS || token == MORE)) {
                token = token == LESS ? AT_MOST : AT_LEAST;
                at++;
            }
            add(token, start, 0);
        }
    }

    /** Reads tokens into a text; behind a fault nothing more is read. */
    private static final class Reader {
        int fault = NONE;
        int place = NONE;
        private final Tape tape;
        private Text into;
        private boolean inHolds = false;
        private int next = 0;
        private int token = FINISH;

        Reader(Tape source, Text first) {
            tape = source;
            into = first;
        }

        /** Whether the tape could be read without a fault. */
        boolean readInto(Text target) {
            into = target;
            into.clear();
            fault = 0;
            place = NONE;
            next = 0;
            token = tape.tokens[0];
            for (int i = 0; i <= MOST_CLAUSES && fault == 0 && token != FINISH; i++) {
                readClause();
            }
            return fault == 0;
        }

        private void advance() {
            if (next + 1 < tape.count) {
                next++;
                token = tape.tokens[next];
            }
        }

        private void fail(int number) {
            if (fault == 0) {
                fault = number;
                place = tape.starts[next];
            }
        }

        private void expect(int wanted) {
            if (fault == 0 && token == wanted) {
                advance();
            } else {
                fail(1);
            }
        }

        private int numberIn(int lowest, int highest) {
            int value = tape.numbers[next];
            if (token != NUMBER) {
                fail(1);
            } else if (value < lowest || value > highest) {
                fail(2);
            } else if (fault == 0) {
                advance();
            }
            return value;
        }

        // -- clauses --

        private void readClause() {
            int act = token;
            if (act > NIGHT) {
                fail(1);
            } else if (act == HOLDS && into.holdsFrom != NONE || act == GIFTS && into.giftsFrom != NONE) {
                fail(4);
            } else if (into.clauses >= MOST_CLAUSES) {
                fail(6);
            } else if (act == HOLDS || act == GIFTS) {
                readLaw(act);
            } else {
                readDeed(act);
            }
        }

        private void readLaw(int act) {
            inHolds = act == HOLDS;
            int from = into.length;
            advance();
            readSum(0);
            if (inHolds) {
                into.holdsFrom = from;
                into.holdsTo = into.length;
            } else {
                into.giftsFrom = from;
                into.giftsTo = into.length;
            }
            expect(STOP);
            into.addClause(act, 0, 0);
        }

        private void readDeed(int act) {
            int first = 0;
            int second = 0;
            advance();
            if (act == PERSON || act == THANK) {
                first = numberIn(0, HOUSES - 1);
            } else if (act == NIGHT) {
                first = numberIn(1, NIGHTS_AT_ONCE);
            } else if (act == KIND || act == GOOD) {
                first = act == KIND ? numberIn(0, MOST_TOLD) : numberIn(1, MOST_GOOD);
                expect(AT);
                second = numberIn(0, HOUSES - 1);
            }
            expect(STOP);
            into.addClause(act, first, second);
        }

        // -- sums; open is how many of ( not over house if - are open around the place --

        /** Goes behind a token that opens; false if it would be one too many. */
        private boolean opens(int open) {
            if (open >= MOST_OPEN) {
                fail(3);
                return false;
            }
            advance();
            return true;
        }

        private void readSum(int open) {
            readProduct(open);
            for (int i = 0; i < MOST_BYTES && fault == 0 && (token == PLUS || token == MINUS); i++) {
                int op = token;
                advance();
                readProduct(open);
                into.emit(op, 0);
            }
        }

        private void readProduct(int open) {
            readOne(open);
            for (int i = 0; i < MOST_BYTES && fault == 0 && (token == TIMES || token == DIVIDED); i++) {
                int op = token;
                advance();
                readOne(open);
                into.emit(op, 0);
            }
        }

        private void readOne(int open) {
            if (fault != 0) {
                return;
            }
            switch (token) {
                case NUMBER:
                    into.emit(NUMBER, numberIn(0, MOST_NUMBER));
                    break;
                case OPEN:
                    if (opens(open)) {
                        readSum(open + 1);
                        expect(CLOSE);
                    }
                    break;
                case MINUS:
                    readOperand(open, NEGATED);
                    break;
                case HOUSE:
                    into.looksFar |= inHolds;
                    readOperand(open, HOUSE);
                    break;
                case OVER:
                    readOver(open);
                    break;
                case IF:
                    readIf(open);
                    break;
                default:
                    readName();
                    break;
            }
        }

        private void readOperand(int open, int op) {
            if (opens(open)) {
                readOne(open + 1);
                into.emit(op, 0);
            }
        }

        private void readOver(int open) {
            if (opens(open)) {
                readOne(open + 1);
                expect(OF);
                readOne(open + 1);
                into.emit(OVER, 0);
            }
        }

        private void readIf(int open) {
            if (opens(open)) {
                readEither(open + 1);
                expect(THEN);
                int toElse = into.emit(IF, 0);
                readSum(open + 1);
                expect(ELSE);
                int toEnd = into.emit(ELSE, 0);
                into.landHere(toElse);
                readSum(open + 1);
                expect(END);
                into.landHere(toEnd);
            }
        }

        private void readName() {
            boolean inBoth = token == NIGHT || token == SNOW || token == HERE
                    || token == KIND || token == PEOPLE;
            boolean ofHolds = token == LEFT || token == RIGHT;
            if (!inBoth && !ofHolds && token != LAST) {
                fail(1);
            } else if (!inBoth && ofHolds != inHolds) {
                fail(5);
            } else {
                into.emit(token, 0);
                advance();
            }
        }

        private void readEither(int open) {
            readBoth(open);
            for (int i = 0; i < MOST_BYTES && fault == 0 && token == OR; i++) {
                advance();
                readBoth(open);
                into.emit(OR, 0);
            }
        }

        private void readBoth(int open) {
            readAsk(open);
            for (int i = 0; i < MOST_BYTES && fault == 0 && token == AND; i++) {
                advance();
                readAsk(open);
                into.emit(AND, 0);
            }
        }

        private void readAsk(int open) {
            if (fault == 0 && token == NOT) {
                if (opens(open)) {
                    readAsk(open + 1);
                    into.emit(NOT, 0);
                }
                return;
            }
            readSum(open);
            int op = token;
            boolean compares = op >= LESS && op <= UNLIKE || op == AT_MOST || op == AT_LEAST;
            if (compares && fault == 0) {
                advance();
                readSum(open);
                into.emit(op, 0);
            } else {
                fail(1);
            }
        }
    }
}
