/** An observatory's shelf of sea watches, their laws, trials, voyages and loans. */
public final class SeaWatches {
    public static final int BAD = -1, MISSING = -2, KIND = -3, NOT = -4, FULL = -5, VOID = -2000000000;

    private static final int DAYS = 400;
    private static final int MOST_DAYS_AT_ONCE = 100;
    private static final int PLACES = 16;
    private static final int SOURCES = 6;
    private static final int PERSONS = 20;
    private static final int SHIPS = 5;
    private static final int CARRIED = 3;
    private static final int MOST_SIGHTS = 40;
    private static final int MOST_OFFS = 60;
    private static final int LONGEST_STRETCH = 60;
    private static final int DAYS_BEFORE_SAILING = 30;
    private static final int TAPE_SIZE = 120;
    private static final int MOST_OPEN = 15;
    private static final int LIST_SIZE = 9;

    private static final int GREATEST_WARMTH = 50;
    private static final int NO_WARMTH = -100;
    private static final int GREATEST_ERROR = 100000;
    private static final int GREATEST_OFF = 10000;
    private static final int GREATEST_RATE = 999;
    private static final int GREATEST_BOUND = 2000;
    private static final int GREATEST_SHOWN = 2000000;
    private static final int GREATEST_FORETOLD = 2000000000;
    private static final int GREATEST_DOUBT = 9999;
    private static final int GREATEST_VOYAGE = 400;
    /** Beyond all times and all worsts. */
    private static final int FAR_OFF = 2000000000;

    private static final int NOTHING = -5, WATCH = 0, BOX = 1, GLASS = 2;
    private static final int OFFICE = -1, FIRST_SHIP = 100;
    private static final int BY_NOW = -1;
    private static final int NONE = -1;
    private static final int NEVER_SAILED = 0, AT_SEA = 1, IS_BACK = 2;

    private static final int REPAIRED = 1, WOUND_LATE = 2;

    private static final int ONE_ALONE = 1, WITH_WARMTH = 2, WITH_BOTH = 3, WITH_AGE = 4;

    /** The words of each rule: the four that all rules have, and then its names. */
    private static final String TRIAL_WORDS = "or and not abs days least most span gaps jump drift sum warm";
    private static final String DROP_WORDS = "or and not abs off doubt days which";
    private static final int KEY_WORDS = 4;
    private static final int MOST_NAMES = 9;

    /** Kinds of words in a text; signs stand for themselves, by their bytes (40 or more). */
    private static final int END = 0, WRONG = 1, NUMBER = 2, NAME = 3;
    private static final int OR = 4, AND = 5, NEGATION = 6, ABSOLUTE = 7, MINUS_AHEAD = 8;

    private final int[] warmths = new int[DAYS];
    private final int[] kinds = new int[PLACES];
    private final int[] numbers = new int[PLACES];
    private final Watch[] watches = new Watch[PLACES];
    private final Ship[] ships = new Ship[SHIPS];
    private final int[] names = new int[MOST_NAMES];
    private final Offs offs = new Offs();
    private final Rates rates = new Rates();
    private final Fit fit = new Fit();
    private final Tape tape = new Tape();
    private final Dealing dealing = new Dealing();
    private Rule trialRule = new Rule();
    private Rule dropRule = new Rule();
    private int today = 0;

    public SeaWatches() {
        for (int day = 0; day < DAYS; day++) {
            warmths[day] = NO_WARMTH;
        }
        for (int place = 0; place < PLACES; place++) {
            kinds[place] = NOTHING;
        }
        for (int ship = 0; ship < SHIPS; ship++) {
            ships[ship] = new Ship();
        }
    }

    // ---- days, the shelf

    public int days(int n) {
        if (n < 1 || n > MOST_DAYS_AT_ONCE || today + n >= DAYS) {
            return BAD;
        }
        today += n;
        return today;
    }

    public int warmth(int day, int w) {
        if (!isDay(day) || (w != NO_WARMTH && !isWithin(w, GREATEST_WARMTH))) {
            return BAD;
        }
        warmths[day] = w;
        return 1;
    }

    public int put(int place, int kind, int w) {
        if (!isPlace(place) || !fitsKind(kind, w)) {
            return BAD;
        }
        if (kinds[place] != NOTHING) {
            return NOT;
        }
        kinds[place] = kind;
        numbers[place] = w;
        if (kind != GLASS) {
            bringWatch(place);
        }
        return 1;
    }

    public int take(int place) {
        if (!isPlace(place)) {
            return BAD;
        }
        if (kinds[place] == NOTHING) {
            return MISSING;
        }
        Watch watch = watchAt(place);
        if (watch != null && watch.holderOn(today) != OFFICE) {
            return NOT;
        }
        kinds[place] = NOTHING;
        return 1;
    }

    public int holds(int place) {
        return isPlace(place) ? kinds[place] : BAD;
    }

    public int read(int place) {
        if (!isPlace(place) || (kinds[place] != BOX && kinds[place] != GLASS)) {
            return VOID;
        }
        return numbers[place];
    }

    // ---- comparisons

    public int compare(int place, int day, int error, int source) {
        if (!isPlace(place) || !isPast(day) || !isWithin(error, GREATEST_ERROR)
                || source < 0 || source >= SOURCES) {
            return BAD;
        }
        Watch watch = watchAt(place);
        if (watch == null) {
            return lackAt(place);
        }
        if (watch.isCompared(day) || watch.holderOn(day) != OFFICE) {
            return NOT;
        }
        watch.tell(day, error, source);
        return 1;
    }

    public int error(int place, int day, int k) {
        Watch watch = watchAt(place);
        if (watch == null || !isDay(day) || !isKnowledge(k)) {
            return VOID;
        }
        return watch.errorAsKnown(day, offs, k);
    }

    public int rate(int place, int day, int k) {
        Watch watch = watchAt(place);
        if (watch == null || !isDay(day) || !isKnowledge(k)) {
            return VOID;
        }
        return watch.rateAsKnown(day, offs, k);
    }

    public int repair(int place, int day) {
        return markOn(place, day, REPAIRED);
    }

    public int late(int place, int day) {
        return markOn(place, day, WOUND_LATE);
    }

    public int age(int place, int day) {
        if (!isPlace(place) || !isDay(day)) {
            return BAD;
        }
        Watch watch = watchAt(place);
        return watch == null ? lackAt(place) : watch.ageOn(day);
    }

    public int off(int signal, int a, int b, int v) {
        if (signal < 1 || signal >= SOURCES || !isDay(a) || !isDay(b) || a > b
                || !isWithin(v, GREATEST_OFF)) {
            return BAD;
        }
        if (offs.size >= MOST_OFFS) {
            return FULL;
        }
        offs.add(signal, a, b, v, today);
        return offs.size;
    }

    public int changed(int place, int p, int q, int k) {
        if (!isPlace(place) || !isStretch(p, q) || !isKnowledge(k)) {
            return BAD;
        }
        Watch watch = watchAt(place);
        if (watch == null) {
            return lackAt(place);
        }
        int changes = 0;
        for (int day = p; day < q; day++) {
            if (watch.rateAsKnown(day, offs, k) != watch.rateAsKnown(day, offs, BY_NOW)) {
                changes++;
            }
        }
        return changes;
    }

    // ---- laws

    public int law(int place, int p, int q) {
        int refusal = refusalOfStretch(place, p, q);
        if (refusal != 0) {
            return refusal;
        }
        fitLaw(place, p, q);
        return fit.size();
    }

    public int terms(int place, int p, int q) {
        int refusal = refusalOfStretch(place, p, q);
        if (refusal != 0) {
            return refusal;
        }
        fitLaw(place, p, q);
        return fit.size() == 0 ? NOT : fit.form();
    }

    public int foretold(int place, int p, int q, int w, int g) {
        if (refusalOfStretch(place, p, q) != 0 || !isWithin(w, GREATEST_WARMTH) || !isDay(g)) {
            return VOID;
        }
        fitLaw(place, p, q);
        if (fit.size() == 0) {
            return VOID;
        }
        long thousandfold = fit.thousandfold(w, g);
        if (thousandfold > GREATEST_FORETOLD || thousandfold < -GREATEST_FORETOLD) {
            return VOID;
        }
        return (int) thousandfold;
    }

    public int jump(int place, int p, int q, int bound) {
        if (bound < 0 || bound > GREATEST_BOUND) {
            return BAD;
        }
        int refusal = refusalOfStretch(place, p, q);
        if (refusal != 0) {
            return refusal;
        }
        rates.gather(watchAt(place), offs, p, q);
        return rates.dayFarthestOff(bound);
    }

    // ---- rules

    public int feed(int n, int v) {
        if (n < 1 || n > 4) {
            return BAD;
        }
        if (tape.size + n > TAPE_SIZE) {
            return FULL;
        }
        for (int i = 0; i < n; i++) {
            tape.add((v >> (8 * i)) & 255);
        }
        return tape.size;
    }

    public int rule(int which) {
        if (which != 0 && which != 1) {
            return BAD;
        }
        int fault = tape.readAsRule(which == 0 ? TRIAL_WORDS : DROP_WORDS);
        tape.size = 0;
        if (fault != NONE) {
            return -100 - fault;
        }
        if (which == 0) {
            trialRule = tape.exchangeRule(trialRule);
        } else {
            dropRule = tape.exchangeRule(dropRule);
        }
        return 1;
    }

    public int trial(int place, int p, int q) {
        if (refusalOfStretch(place, p, q) != 0 || !hasTrial(place, p, q)) {
            return VOID;
        }
        return workOutTrial(place, q - p);
    }

    public int order(int place, int p, int q) {
        int refusal = refusalOfStretch(place, p, q);
        if (refusal != 0) {
            return refusal;
        }
        if (!hasTrial(place, p, q)) {
            return NOT;
        }
        int own = workOutTrial(place, q - p);
        int less = 0;
        for (int other = 0; other < PLACES; other++) {
            if (hasTrial(other, p, q) && workOutTrial(other, q - p) < own) {
                less++;
            }
        }
        return 1 + less;
    }

    // ---- ships

    public int sail(int ship, int a, int b, int c) {
        if (!isShip(ship) || !isPlace(a) || !isPlace(b) || !isPlace(c) || a == b || a == c || b == c) {
            return BAD;
        }
        int lack = firstLack(a, b, c);
        if (lack != 0) {
            return lack;
        }
        Ship sailing = ships[ship];
        if (sailing.stage == AT_SEA || !isFitToSail(a) || !isFitToSail(b) || !isFitToSail(c)) {
            return NOT;
        }
        sailing.leave(today);
        board(ship, 0, a);
        board(ship, 1, b);
        board(ship, 2, c);
        return 1;
    }

    public int carried(int ship, int i, int what) {
        if (!isShip(ship) || i < 0 || i >= CARRIED || ships[ship].stage == NEVER_SAILED) {
            return VOID;
        }
        Ship asked = ships[ship];
        switch (what) {
            case 0: return asked.places[i];
            case 1: return asked.starts[i];
            case 2: return asked.goings[i];
            case 3: return asked.doubts[i];
            default: return VOID;
        }
    }

    public int sight(int ship, int day, int a, int b, int c) {
        if (!isShip(ship) || !isPast(day) || !isWithin(a, GREATEST_SHOWN)
                || !isWithin(b, GREATEST_SHOWN) || !isWithin(c, GREATEST_SHOWN)) {
            return BAD;
        }
        Ship seeing = ships[ship];
        if (!seeing.mayBeSighted(day)) {
            return BAD;
        }
        if (seeing.stage != AT_SEA) {
            return NOT;
        }
        if (seeing.sights >= MOST_SIGHTS) {
            return FULL;
        }
        return seeing.addSight(day, a, b, c);
    }

    public int told(int ship, int sight, int what) {
        if (!isShip(ship) || sight < 0 || sight >= ships[ship].sights || what < 0 || what > 9) {
            return VOID;
        }
        Ship asked = ships[ship];
        if (what == 0) {
            return asked.sightDays[sight];
        }
        if (what >= 7) {
            return asked.widthOf(sight, what - 7);
        }
        if (what >= 4) {
            return asked.timeOf(sight, what - 4);
        }
        int dropped = droppedOf(asked, sight);
        if (what == 1) {
            return dropped;
        }
        int begin = asked.beginOf(sight, dropped);
        int end = asked.endOf(sight, dropped);
        if (end < begin) {
            return VOID;
        }
        return what == 2 ? begin : end;
    }

    public int back(int ship, int a, int b, int c) {
        if (!isShip(ship) || !isWithin(a, GREATEST_ERROR) || !isWithin(b, GREATEST_ERROR)
                || !isWithin(c, GREATEST_ERROR)) {
            return BAD;
        }
        Ship coming = ships[ship];
        if (coming.stage != AT_SEA || coming.sailed >= today) {
            return NOT;
        }
        coming.comeBack(today);
        unload(coming, 0, a);
        unload(coming, 1, b);
        unload(coming, 2, c);
        return coming.voyage;
    }

    public int state(int ship) {
        return isShip(ship) ? ships[ship].stage : BAD;
    }

    public int doubt(int v) {
        if (v < 1 || v > GREATEST_DOUBT) {
            return BAD;
        }
        if (dealing.listed >= LIST_SIZE) {
            return FULL;
        }
        dealing.add(v);
        return dealing.listed;
    }

    public int deal(int a, int b, int c) {
        if (a < 1 || a > GREATEST_VOYAGE || b < 0 || b > GREATEST_VOYAGE || c < 0 || c > GREATEST_VOYAGE
                || (b == 0 && c != 0)) {
            return BAD;
        }
        int sailing = b == 0 ? 1 : c == 0 ? 2 : 3;
        if (dealing.listed < CARRIED * sailing) {
            return NOT;
        }
        return dealing.shareOut(sailing, a, b, c);
    }

    public int dealt(int i) {
        return i < 0 || i >= dealing.shared ? VOID : dealing.best[i];
    }

    // ---- loans

    public int lend(int place, int person) {
        if (!isPlace(place) || person < 0 || person >= PERSONS) {
            return BAD;
        }
        Watch watch = watchAt(place);
        if (watch == null) {
            return lackAt(place);
        }
        if (watch.holderOn(today) != OFFICE) {
            return NOT;
        }
        watch.giveTo(person, today);
        return 1;
    }

    public int home(int place) {
        if (!isPlace(place)) {
            return BAD;
        }
        Watch watch = watchAt(place);
        if (watch == null) {
            return lackAt(place);
        }
        int holder = watch.holderOn(today);
        if (holder < 0 || holder >= PERSONS) {
            return NOT;
        }
        watch.giveTo(OFFICE, today);
        return 1;
    }

    public int holder(int place, int day) {
        Watch watch = watchAt(place);
        return watch == null || !isPast(day) ? VOID : watch.holderOn(day);
    }

    public int away(int place) {
        if (!isPlace(place)) {
            return BAD;
        }
        Watch watch = watchAt(place);
        return watch == null ? lackAt(place) : watch.daysAway(today);
    }

    public int count(int what) {
        switch (what) {
            case 0: return placesWith(WATCH) + placesWith(BOX);
            case 1: return today;
            case 2: return offs.size;
            case 3: return shipsAtSea();
            case 4: return tape.size;
            case 5: return placesWith(GLASS);
            case 6: return dealing.listed;
            default: return BAD;
        }
    }

    // ---- what arguments may be

    private static boolean isDay(int day) {
        return day >= 0 && day < DAYS;
    }

    private boolean isPast(int day) {
        return day >= 0 && day <= today;
    }

    private static boolean isKnowledge(int k) {
        return k == BY_NOW || isDay(k);
    }

    private static boolean isPlace(int place) {
        return place >= 0 && place < PLACES;
    }

    private static boolean isShip(int ship) {
        return ship >= 0 && ship < SHIPS;
    }

    private static boolean isWithin(int number, int greatest) {
        return number >= -greatest && number <= greatest;
    }

    private static boolean isStretch(int p, int q) {
        return isDay(p) && isDay(q) && p < q && q - p <= LONGEST_STRETCH;
    }

    private static boolean fitsKind(int kind, int w) {
        return (kind == WATCH && w == 0) || (kind == BOX && isWithin(w, GREATEST_WARMTH)) || kind == GLASS;
    }

    // ---- watches at their places

    /** The watch (or box) of a place; null where there is no place, nothing or a glass. */
    private Watch watchAt(int place) {
        if (!isPlace(place) || (kinds[place] != WATCH && kinds[place] != BOX)) {
            return null;
        }
        return watches[place];
    }

    /** Why a place has no watch. */
    private int lackAt(int place) {
        if (!isPlace(place)) {
            return BAD;
        }
        return kinds[place] == NOTHING ? MISSING : KIND;
    }

    /** Of three places the first one's lack, 0 if all have watches. */
    private int firstLack(int a, int b, int c) {
        if (watchAt(a) == null) {
            return lackAt(a);
        }
        if (watchAt(b) == null) {
            return lackAt(b);
        }
        return watchAt(c) == null ? lackAt(c) : 0;
    }

    private int refusalOfStretch(int place, int p, int q) {
        if (!isPlace(place) || !isStretch(p, q)) {
            return BAD;
        }
        return watchAt(place) == null ? lackAt(place) : 0;
    }

    /** A place's rows are made once and used again, as memory is never given back. */
    private void bringWatch(int place) {
        if (!isPlace(place)) {
            return;
        }
        if (watches[place] == null) {
            watches[place] = new Watch();
        }
        watches[place].becomeNew();
    }

    private int markOn(int place, int day, int mark) {
        if (!isPlace(place) || !isPast(day)) {
            return BAD;
        }
        Watch watch = watchAt(place);
        if (watch == null) {
            return lackAt(place);
        }
        return watch.addMark(day, mark) ? 1 : 0;
    }

    private int warmthFor(int place, int day) {
        if (!isPlace(place) || !isDay(day)) {
            return NO_WARMTH;
        }
        return kinds[place] == BOX ? numbers[place] : warmths[day];
    }

    private int placesWith(int kind) {
        int found = 0;
        for (int place = 0; place < PLACES; place++) {
            if (kinds[place] == kind) {
                found++;
            }
        }
        return found;
    }

    private int shipsAtSea() {
        int found = 0;
        for (int ship = 0; ship < SHIPS; ship++) {
            if (ships[ship].stage == AT_SEA) {
                found++;
            }
        }
        return found;
    }

    // ---- laws and trials

    private void fitLaw(int place, int p, int q) {
        fit.clear();
        Watch watch = watchAt(place);
        if (watch == null) {
            return;
        }
        rates.gather(watch, offs, p, q);
        for (int i = 0; i < rates.size; i++) {
            int day = rates.days[i];
            int warmth = warmthFor(place, day);
            if (warmth != NO_WARMTH) {
                fit.add(rates.values[i], warmth, watch.ageOn(day));
            }
        }
        fit.solve();
    }

    /** Gathers the rates, too, which workOutTrial then uses. */
    private boolean hasTrial(int place, int p, int q) {
        Watch watch = watchAt(place);
        if (watch == null || trialRule.size == 0) {
            return false;
        }
        rates.gather(watch, offs, p, q);
        return rates.size > 0;
    }

    private int workOutTrial(int place, int length) {
        int least = rates.least();
        int most = rates.most();
        names[0] = rates.size;
        names[1] = least;
        names[2] = most;
        names[3] = most - least;
        names[4] = length - rates.size;
        names[5] = rates.greatestStep();
        names[6] = rates.drift();
        names[7] = rates.sum();
        names[8] = warmthSpan(place);
        return trialRule.workOut(names);
    }

    private int warmthSpan(int place) {
        int least = GREATEST_WARMTH;
        int most = -GREATEST_WARMTH;
        for (int i = 0; i < rates.size; i++) {
            int warmth = warmthFor(place, rates.days[i]);
            if (warmth != NO_WARMTH) {
                least = Math.min(least, warmth);
                most = Math.max(most, warmth);
            }
        }
        return Math.max(0, most - least);
    }

    // ---- ships

    private void gatherBeforeSailing(Watch watch) {
        rates.gather(watch, offs, Math.max(0, today - DAYS_BEFORE_SAILING), today);
    }

    private boolean isFitToSail(int place) {
        Watch watch = watchAt(place);
        if (watch == null || watch.holderOn(today) != OFFICE || !watch.isCompared(today)) {
            return false;
        }
        gatherBeforeSailing(watch);
        return rates.size >= 2;
    }

    private void board(int ship, int i, int place) {
        Watch watch = watchAt(place);
        if (watch == null || !isShip(ship)) {
            return;
        }
        gatherBeforeSailing(watch);
        if (rates.size == 0) {
            return;
        }
        int going = Math.floorDiv(rates.sum(), rates.size);
        int doubt = 1 + (rates.most() - rates.least()) / 2;
        ships[ship].carry(i, place, watch.errorAsKnown(today, offs, BY_NOW), going, doubt);
        watch.giveTo(FIRST_SHIP + ship, today);
    }

    private void unload(Ship ship, int i, int error) {
        if (i < 0 || i >= CARRIED) {
            return;
        }
        ship.ends[i] = error;
        Watch watch = watchAt(ship.places[i]);
        if (watch != null) {
            watch.tell(today, error, 0);
            watch.giveTo(OFFICE, today);
        }
    }

    private int droppedOf(Ship ship, int sight) {
        int dropped = NONE;
        if (dropRule.size == 0) {
            return dropped;
        }
        int most = 0;
        for (int i = 0; i < CARRIED; i++) {
            names[0] = ship.offFromOthers(sight, i);
            names[1] = ship.doubts[i];
            names[2] = ship.daysSince(sight);
            names[3] = i;
            int given = dropRule.workOut(names);
            if (given > most) {
                most = given;
                dropped = i;
            }
        }
        return dropped;
    }

    /** What signals were found off by, and when that was told. */
    private static final class Offs {
        private final int[] signals = new int[MOST_OFFS];
        private final int[] firsts = new int[MOST_OFFS];
        private final int[] lasts = new int[MOST_OFFS];
        private final int[] values = new int[MOST_OFFS];
        private final int[] toldOn = new int[MOST_OFFS];
        private int size = 0;

        void add(int signal, int first, int last, int value, int today) {
            if (size >= MOST_OFFS) {
                return;
            }
            signals[size] = signal;
            firsts[size] = first;
            lasts[size] = last;
            values[size] = value;
            toldOn[size] = today;
            size++;
        }

        int sumFor(int source, int day, int k) {
            int sum = 0;
            if (source == 0) {
                return sum;
            }
            for (int i = 0; i < size; i++) {
                if (signals[i] == source && firsts[i] <= day && day <= lasts[i]
                        && (k == BY_NOW || toldOn[i] <= k)) {
                    sum += values[i];
                }
            }
            return sum;
        }
    }

    /** What a watch has, day by day. */
    private static final class Watch {
        private final int[] tolds = new int[DAYS];
        private final int[] sources = new int[DAYS];
        private final int[] marks = new int[DAYS];
        private final int[] holders = new int[DAYS];

        void becomeNew() {
            for (int day = 0; day < DAYS; day++) {
                tolds[day] = 0;
                sources[day] = NONE;
                marks[day] = 0;
                holders[day] = OFFICE;
            }
        }

        boolean isCompared(int day) {
            return isDay(day) && sources[day] != NONE;
        }

        void tell(int day, int error, int source) {
            if (isDay(day)) {
                tolds[day] = error;
                sources[day] = source;
            }
        }

        /** VOID if there is none. */
        int errorAsKnown(int day, Offs offs, int k) {
            return isCompared(day) ? tolds[day] - offs.sumFor(sources[day], day, k) : VOID;
        }

        /** VOID if there is none. */
        int rateAsKnown(int day, Offs offs, int k) {
            return rateBetween(day, errorAsKnown(day, offs, k), errorAsKnown(day + 1, offs, k));
        }

        int rateBetween(int day, int error, int nextError) {
            if (error == VOID || nextError == VOID || !isWithin(nextError - error, GREATEST_RATE)) {
                return VOID;
            }
            if (isMarked(day, WOUND_LATE) || isMarked(day + 1, REPAIRED | WOUND_LATE)) {
                return VOID;
            }
            return nextError - error;
        }

        boolean isMarked(int day, int anyOf) {
            return isDay(day) && (marks[day] & anyOf) != 0;
        }

        boolean addMark(int day, int mark) {
            if (!isDay(day) || isMarked(day, mark)) {
                return false;
            }
            marks[day] |= mark;
            return true;
        }

        int ageOn(int day) {
            for (int since = 0; since < day; since++) {
                if (isMarked(day - since, REPAIRED)) {
                    return since;
                }
            }
            return day;
        }

        int holderOn(int day) {
            return isDay(day) ? holders[day] : OFFICE;
        }

        void giveTo(int holder, int today) {
            for (int day = Math.max(0, today); day < DAYS; day++) {
                holders[day] = holder;
            }
        }

        int daysAway(int today) {
            int days = 0;
            for (int day = 0; day <= today && day < DAYS; day++) {
                if (holders[day] != OFFICE) {
                    days++;
                }
            }
            return days;
        }
    }

    /** The rates of a watch in a stretch of days, in the order of days, as known by now. */
    private static final class Rates {
        private final int[] days = new int[LONGEST_STRETCH];
        private final int[] values = new int[LONGEST_STRETCH];
        private final int[] sorted = new int[LONGEST_STRETCH];
        private int size = 0;

        void gather(Watch watch, Offs offs, int p, int q) {
            size = 0;
            if (watch == null) {
                return;
            }
            int error = watch.errorAsKnown(p, offs, BY_NOW);
            for (int day = p; day < q && size < LONGEST_STRETCH; day++) {
                int nextError = watch.errorAsKnown(day + 1, offs, BY_NOW);
                int rate = watch.rateBetween(day, error, nextError);
                if (rate != VOID) {
                    days[size] = day;
                    values[size] = rate;
                    size++;
                }
                error = nextError;
            }
        }

        int least() {
            int least = GREATEST_RATE;
            for (int i = 0; i < size; i++) {
                least = Math.min(least, values[i]);
            }
            return least;
        }

        int most() {
            int most = -GREATEST_RATE;
            for (int i = 0; i < size; i++) {
                most = Math.max(most, values[i]);
            }
            return most;
        }

        int sum() {
            int sum = 0;
            for (int i = 0; i < size; i++) {
                sum += values[i];
            }
            return sum;
        }

        int drift() {
            return size == 0 ? 0 : values[size - 1] - values[0];
        }

        int greatestStep() {
            int greatest = 0;
            for (int i = 1; i < size; i++) {
                greatest = Math.max(greatest, Math.abs(values[i] - values[i - 1]));
            }
            return greatest;
        }

        /** The day of the rate farthest off from the middle one, by more than the bound; else NOT. */
        int dayFarthestOff(int bound) {
            if (size == 0) {
                return NOT;
            }
            int middle = middleOne();
            int farthest = bound;
            int day = NOT;
            for (int i = 0; i < size; i++) {
                int distance = Math.abs(values[i] - middle);
                if (distance > farthest) {
                    farthest = distance;
                    day = days[i];
                }
            }
            return day;
        }

        private int middleOne() {
            for (int i = 0; i < size; i++) {
                int at = i;
                while (at > 0 && sorted[at - 1] > values[i]) {
                    sorted[at] = sorted[at - 1];
                    at--;
                }
                sorted[at] = values[i];
            }
            return size == 0 ? 0 : sorted[(size - 1) / 2];
        }
    }

    /** The least squares of rates by warmth and age, in whole numbers, so that nothing is lost. */
    private static final class Fit {
        private long n, sumR, sumW, sumA, sumWW, sumAA, sumWA, sumWR, sumAR;
        /** The law is sumR / n + (byWarmth (w - mean) + byAge (age - mean)) / divisor. */
        private long divisor = 1, byWarmth, byAge;
        private int form = ONE_ALONE;
        private long whole, rest;

        void clear() {
            n = 0;
            sumR = 0;
            sumW = 0;
            sumA = 0;
            sumWW = 0;
            sumAA = 0;
            sumWA = 0;
            sumWR = 0;
            sumAR = 0;
        }

        void add(long rate, long warmth, long age) {
            n++;
            sumR += rate;
            sumW += warmth;
            sumA += age;
            sumWW += warmth * warmth;
            sumAA += age * age;
            sumWA += warmth * age;
            sumWR += warmth * rate;
            sumAR += age * rate;
        }

        int size() {
            return (int) n;
        }

        int form() {
            return form;
        }

        /** A law is one alone just where its determinant, which is never below 0, is above it. */
        void solve() {
            long spreadW = n * sumWW - sumW * sumW;
            long spreadA = n * sumAA - sumA * sumA;
            long joint = n * sumWA - sumW * sumA;
            long withW = n * sumWR - sumW * sumR;
            long withA = n * sumAR - sumA * sumR;
            long both = spreadW * spreadA - joint * joint;
            if (both > 0) {
                setLaw(WITH_BOTH, both, withW * spreadA - withA * joint, withA * spreadW - withW * joint);
            } else if (spreadW > 0) {
                setLaw(WITH_WARMTH, spreadW, withW, 0);
            } else if (spreadA > 0) {
                setLaw(WITH_AGE, spreadA, 0, withA);
            } else {
                setLaw(ONE_ALONE, 1, 0, 0);
            }
        }

        private void setLaw(int newForm, long newDivisor, long newByWarmth, long newByAge) {
            form = newForm;
            divisor = newDivisor;
            byWarmth = newByWarmth;
            byAge = newByAge;
        }

        /** 1000 times what the law gives, rounded down. */
        long thousandfold(int w, int g) {
            whole = 0;
            rest = 0;
            addProduct(divisor, 1000 * sumR);
            addProduct(byWarmth, 1000 * (n * w - sumW));
            addProduct(byAge, 1000 * (n * g - sumA));
            return whole;
        }

        /**
         * Adds a * b / (n * divisor) to whole and rest. a * b may go beyond a long, so it is made bit by bit
         * of b, which is below 2^27 without its sign; n * divisor is below 2^57.
         */
        private void addProduct(long a, long b) {
            long whatDivides = n * divisor;
            if (whatDivides <= 0) {
                return;
            }
            long factor = b < 0 ? -a : a;
            long times = Math.abs(b);
            long remainder = Math.floorMod(factor, whatDivides);
            whole += Math.floorDiv(factor, whatDivides) * times;
            long part = 0;
            long left = 0;
            for (int bit = 30; bit >= 0; bit--) {
                left = 2 * left + ((times >> bit) & 1) * remainder;
                part = 2 * part + left / whatDivides;
                left = left % whatDivides;
            }
            rest += left;
            whole += part + rest / whatDivides;
            rest = rest % whatDivides;
        }
    }

    /** A text that was read: numbers and names, each sign behind what it works on. */
    private static final class Rule {
        private final int[] signs = new int[TAPE_SIZE];
        private final int[] values = new int[TAPE_SIZE];
        private final int[] stack = new int[TAPE_SIZE];
        private int size = 0;

        void add(int sign, int value) {
            if (size < TAPE_SIZE) {
                signs[size] = sign;
                values[size] = value;
                size++;
            }
        }

        int workOut(int[] names) {
            int top = 0;
            for (int i = 0; i < size; i++) {
                int sign = signs[i];
                int value = values[i];
                if (sign == NUMBER && top < TAPE_SIZE) {
                    stack[top] = value;
                    top++;
                } else if (sign == NAME && top < TAPE_SIZE && value >= 0 && value < names.length) {
                    stack[top] = names[value];
                    top++;
                } else if (isAhead(sign) && top >= 1) {
                    stack[top - 1] = workOutOne(sign, stack[top - 1]);
                } else if (top >= 2) {
                    top--;
                    stack[top - 1] = workOutTwo(sign, stack[top - 1], stack[top]);
                }
            }
            return top > 0 ? stack[top - 1] : 0;
        }

        private static boolean isAhead(int sign) {
            return sign == NEGATION || sign == ABSOLUTE || sign == MINUS_AHEAD;
        }

        private static int workOutOne(int sign, int x) {
            switch (sign) {
                case NEGATION: return x == 0 ? 1 : 0;
                case ABSOLUTE: return x < 0 ? -x : x;
                default: return -x;
            }
        }

        private static int workOutTwo(int sign, int x, int y) {
            switch (sign) {
                case OR: return x != 0 || y != 0 ? 1 : 0;
                case AND: return x != 0 && y != 0 ? 1 : 0;
                case '<': return x < y ? 1 : 0;
                case '=': return x == y ? 1 : 0;
                case '>': return x > y ? 1 : 0;
                case '+': return x + y;
                case '-': return x - y;
                case '*': return x * y;
                default: return y == 0 ? 0 : x / y;
            }
        }
    }

    /**
     * The bytes that were fed and did not yet become a rule. They are read one word ahead, so that the word
     * at which the reading stops is the first one with which no text goes on.
     */
    private static final class Tape {
        private final int[] bytes = new int[TAPE_SIZE];
        private int size = 0;
        private Rule rule = new Rule();
        private String words = "";
        private int at = 0;
        private int word = END;
        private int wordAt = 0;
        private int value = 0;

        void add(int oneByte) {
            if (size < TAPE_SIZE) {
                bytes[size] = oneByte;
                size++;
            }
        }

        /** The fault, or NONE. */
        int readAsRule(String wordsOfRule) {
            words = wordsOfRule;
            rule.size = 0;
            at = 0;
            goOn();
            boolean good = readEither(0);
            return good && word == END ? NONE : wordAt;
        }

        /** The rule that was read, for an old one whose rows the next one may use. */
        Rule exchangeRule(Rule old) {
            Rule fresh = rule;
            rule = old;
            return fresh;
        }

        /** A { or A } */
        private boolean readEither(int open) {
            boolean good = readBoth(open);
            for (int i = 0; i < TAPE_SIZE && good && word == OR; i++) {
                goOn();
                good = readBoth(open);
                rule.add(OR, 0);
            }
            return good;
        }

        /** N { and N } */
        private boolean readBoth(int open) {
            boolean good = readNegation(open);
            for (int i = 0; i < TAPE_SIZE && good && word == AND; i++) {
                goOn();
                good = readNegation(open);
                rule.add(AND, 0);
            }
            return good;
        }

        /** not N, or C */
        private boolean readNegation(int open) {
            if (word != NEGATION) {
                return readComparison(open);
            }
            if (open >= MOST_OPEN) {
                return false;
            }
            goOn();
            boolean good = readNegation(open + 1);
            rule.add(NEGATION, 0);
            return good;
        }

        /** S [ < S, = S, or > S ] */
        private boolean readComparison(int open) {
            boolean good = readSum(open);
            if (good && (word == '<' || word == '=' || word == '>')) {
                int sign = word;
                goOn();
                good = readSum(open);
                rule.add(sign, 0);
            }
            return good;
        }

        /** P { + P, - P } */
        private boolean readSum(int open) {
            boolean good = readProduct(open);
            for (int i = 0; i < TAPE_SIZE && good && (word == '+' || word == '-'); i++) {
                int sign = word;
                goOn();
                good = readProduct(open);
                rule.add(sign, 0);
            }
            return good;
        }

        /** O { * O, / O } */
        private boolean readProduct(int open) {
            boolean good = readOperand(open);
            for (int i = 0; i < TAPE_SIZE && good && (word == '*' || word == '/'); i++) {
                int sign = word;
                goOn();
                good = readOperand(open);
                rule.add(sign, 0);
            }
            return good;
        }

        /** a NUMBER, a NAME, ( E ), abs O, or - O */
        private boolean readOperand(int open) {
            if (word == NUMBER || word == NAME) {
                rule.add(word, value);
                goOn();
                return true;
            }
            if ((word != '(' && word != ABSOLUTE && word != '-') || open >= MOST_OPEN) {
                return false;
            }
            int opener = word;
            goOn();
            if (opener == '(') {
                return readInBrackets(open + 1);
            }
            boolean good = readOperand(open + 1);
            rule.add(opener == '-' ? MINUS_AHEAD : ABSOLUTE, 0);
            return good;
        }

        private boolean readInBrackets(int open) {
            if (!readEither(open) || word != ')') {
                return false;
            }
            goOn();
            return true;
        }

        private void goOn() {
            while (at < size && bytes[at] == ' ') {
                at++;
            }
            wordAt = at;
            if (at >= size) {
                word = END;
            } else if (isLetter(bytes[at])) {
                takeLetters();
            } else if (isDigit(bytes[at])) {
                takeDigits();
            } else {
                word = isSign(bytes[at]) ? bytes[at] : WRONG;
                at++;
            }
        }

        private void takeLetters() {
            while (at < size && isLetter(bytes[at])) {
                at++;
            }
            int place = placeAmongWords();
            value = place - KEY_WORDS;
            word = place == NONE ? WRONG : place < KEY_WORDS ? OR + place : NAME;
        }

        private void takeDigits() {
            value = 0;
            while (at < size && isDigit(bytes[at])) {
                value = 10 * value + bytes[at] - '0';
                at++;
            }
            word = at - wordAt <= 5 ? NUMBER : WRONG;
        }

        /** Which of the rule's words, parted by single blanks, is the one on the tape; or NONE. */
        private int placeAmongWords() {
            int place = 0;
            int start = 0;
            for (int i = 0; i <= words.length(); i++) {
                if (i == words.length() || words.charAt(i) == ' ') {
                    if (isOnTape(start, i)) {
                        return place;
                    }
                    place++;
                    start = i + 1;
                }
            }
            return NONE;
        }

        private boolean isOnTape(int start, int end) {
            if (end - start != at - wordAt || start < 0 || end > words.length() || at > size) {
                return false;
            }
            for (int i = start; i < end; i++) {
                if (words.charAt(i) != bytes[wordAt + i - start]) {
                    return false;
                }
            }
            return true;
        }

        private static boolean isLetter(int oneByte) {
            return oneByte >= 'a' && oneByte <= 'z';
        }

        private static boolean isDigit(int oneByte) {
            return oneByte >= '0' && oneByte <= '9';
        }

        private static boolean isSign(int oneByte) {
            switch (oneByte) {
                case '<': case '=': case '>': case '+': case '-': case '*': case '/': case '(': case ')':
                    return true;
                default:
                    return false;
            }
        }
    }

    /** A ship's latest voyage. */
    private static final class Ship {
        private final int[] places = new int[CARRIED];
        private final int[] starts = new int[CARRIED];
        private final int[] goings = new int[CARRIED];
        private final int[] doubts = new int[CARRIED];
        private final int[] ends = new int[CARRIED];
        private final int[] sightDays = new int[MOST_SIGHTS];
        private final int[] shown = new int[CARRIED * MOST_SIGHTS];
        private int sights = 0;
        private int stage = NEVER_SAILED;
        private int sailed = 0;
        private int voyage = 0;

        void leave(int today) {
            stage = AT_SEA;
            sailed = today;
            sights = 0;
        }

        void carry(int i, int place, int start, int going, int doubt) {
            if (i < 0 || i >= CARRIED) {
                return;
            }
            places[i] = place;
            starts[i] = start;
            goings[i] = going;
            doubts[i] = doubt;
        }

        void comeBack(int today) {
            stage = IS_BACK;
            voyage = today - sailed;
        }

        boolean mayBeSighted(int day) {
            if (stage == NEVER_SAILED) {
                return true;
            }
            return day > sailed && (sights == 0 || day >= sightDays[sights - 1]);
        }

        int addSight(int day, int a, int b, int c) {
            if (sights >= MOST_SIGHTS) {
                return FULL;
            }
            sightDays[sights] = day;
            shown[CARRIED * sights] = a;
            shown[CARRIED * sights + 1] = b;
            shown[CARRIED * sights + 2] = c;
            sights++;
            return sights - 1;
        }

        private boolean isOf(int sight, int i) {
            return sight >= 0 && sight < sights && i >= 0 && i < CARRIED;
        }

        int daysSince(int sight) {
            return isOf(sight, 0) ? sightDays[sight] - sailed : 0;
        }

        int timeOf(int sight, int i) {
            if (!isOf(sight, i)) {
                return 0;
            }
            int n = daysSince(sight);
            int gone = goings[i] * n;
            if (stage == IS_BACK && voyage > 0) {
                gone = Math.floorDiv(n * (ends[i] - starts[i]), voyage);
            }
            return shown[CARRIED * sight + i] - starts[i] - gone;
        }

        int widthOf(int sight, int i) {
            if (!isOf(sight, i)) {
                return 0;
            }
            int n = daysSince(sight);
            return doubts[i] * (stage == IS_BACK ? Math.min(n, voyage - n) : n) + 5;
        }

        int offFromOthers(int sight, int i) {
            int others = timeOf(sight, (i + 1) % CARRIED) + timeOf(sight, (i + 2) % CARRIED);
            return Math.abs(timeOf(sight, i) - Math.floorDiv(others, 2));
        }

        int beginOf(int sight, int dropped) {
            int greatest = -FAR_OFF;
            for (int i = 0; i < CARRIED; i++) {
                if (i != dropped) {
                    greatest = Math.max(greatest, timeOf(sight, i) - widthOf(sight, i));
                }
            }
            return greatest;
        }

        int endOf(int sight, int dropped) {
            int least = FAR_OFF;
            for (int i = 0; i < CARRIED; i++) {
                if (i != dropped) {
                    least = Math.min(least, timeOf(sight, i) + widthOf(sight, i));
                }
            }
            return least;
        }
    }

    /** The list of doubts, and who got what by the latest deal. */
    private static final class Dealing {
        private final int[] doubts = new int[LIST_SIZE];
        private final int[] way = new int[LIST_SIZE];
        private final int[] best = new int[LIST_SIZE];
        private final int[] voyages = new int[CARRIED];
        private final int[] given = new int[CARRIED];
        private int listed = 0;
        private int shared = 0;
        private int sailing = 0;
        private int leastWorst = 0;

        void add(int doubt) {
            if (listed < LIST_SIZE) {
                doubts[listed] = doubt;
                listed++;
            }
        }

        int shareOut(int shipsSailing, int a, int b, int c) {
            sailing = Math.max(0, Math.min(shipsSailing, voyages.length));
            voyages[0] = a;
            voyages[1] = b;
            voyages[2] = c;
            leastWorst = FAR_OFF;
            for (int ship = 0; ship < given.length; ship++) {
                given[ship] = 0;
            }
            tryFrom(0, listed - CARRIED * sailing);
            shared = listed;
            listed = 0;
            return leastWorst;
        }

        /** Tries the ways in their order, so that the first of the best ones is found first. */
        private void tryFrom(int i, int spare) {
            if (i >= listed || i >= LIST_SIZE) {
                keepIfBetter();
                return;
            }
            for (int ship = 0; ship < sailing && ship < given.length; ship++) {
                if (given[ship] < CARRIED) {
                    way[i] = ship;
                    given[ship]++;
                    tryFrom(i + 1, spare);
                    given[ship]--;
                }
            }
            if (spare > 0) {
                way[i] = NONE;
                tryFrom(i + 1, spare - 1);
            }
        }

        private void keepIfBetter() {
            int worst = 0;
            for (int ship = 0; ship < sailing && ship < voyages.length; ship++) {
                worst = Math.max(worst, voyages[ship] * secondLeast(ship));
            }
            if (worst < leastWorst) {
                leastWorst = worst;
                for (int i = 0; i < LIST_SIZE; i++) {
                    best[i] = way[i];
                }
            }
        }

        /** The middle one of a ship's three doubts. */
        private int secondLeast(int ship) {
            int sum = 0;
            int least = GREATEST_DOUBT;
            int most = 0;
            for (int i = 0; i < listed && i < LIST_SIZE; i++) {
                if (way[i] == ship) {
                    sum += doubts[i];
                    least = Math.min(least, doubts[i]);
                    most = Math.max(most, doubts[i]);
                }
            }
            return sum - least - most;
        }
    }
}
