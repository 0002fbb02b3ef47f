/**
 * A rope way that four villages weave anew each year: what each house owes and brings, the ropes
 * laid of its cords, the bridge that they carry, the days of work in their best row, the masters,
 * and what broke. ../shared/DOC.md tells each call; here stands only what it leaves open.
 */
public final class GrassBridge {
    private static final int NOBODY = -1;
    private static final int OTHER = -2;
    private static final int STATE = -3;
    private static final int BELOW = -4;
    private static final int ROOM = -6;
    private static final int NONE = -9;
    /** Answers that may be below 0 tell a refusal as this less it. */
    private static final int AS_TOLD = 1000000000;

    private static final int LAST_YEAR = 60;
    private static final int WEEKS = 52;
    private static final int VILLAGES = 4;
    private static final int MOST_HOUSES = 24;
    private static final int MOST_ROPES = 200;
    private static final int PLACES = 6;
    private static final int MOST_KEPT = 40;
    private static final int MOST_STEPS = 12;
    private static final int MOST_PLANNED = 8;
    private static final int MOST_PEOPLE = 30;

    private static final int MOST_FATHOMS = 2000;
    private static final int MOST_DOUBT = 20;
    private static final int MOST_ASKED = 10000;
    private static final int MOST_LOAD = 2000;
    private static final int MOST_TENSION = 99;
    private static final int MOST_DAYS = 9;
    private static final int MOST_HANDS = 60;
    private static final int GREATEST_BIRTH = 60;
    private static final int OF_AGE = 20;
    /** The parent of those who have none. */
    private static final int NO_PARENT = -1;

    private static final int SMALL = 0;
    private static final int GREAT = 2;
    private static final int LEAD = 0;
    private static final int AWAY_WITH = 1;
    private static final int TUNE = 2;

    private final int[] refusals = new int[7];
    private final Season season = new Season();
    private final Houses houses = new Houses();
    private final RopeYard yard = new RopeYard();
    private final Span span = new Span();
    private final Breaks breaks = new Breaks();
    private final Work work = new Work();
    private final Planner planner = new Planner(work);
    private final People people = new People();

    /** Promise 1. */
    public GrassBridge() {
    }

    private int refuse(int number) {
        if (-number >= 0 && -number < refusals.length) {
            refusals[-number]++;
        }
        return number;
    }

    private int refuseAsTold(int number) {
        return AS_TOLD - refuse(number);
    }

    /** BELOW or ROOM if v is outside least .. greatest, else 0. */
    private static int misfit(int v, int least, int greatest) {
        return v < least ? BELOW : v > greatest ? ROOM : 0;
    }

    /** The refusal of two numbers told together: one that is too small comes first. */
    private static int first(int one, int other) {
        return one == BELOW || other == BELOW ? BELOW : one == ROOM || other == ROOM ? ROOM : 0;
    }

    // ---- the year, its weeks and their rain ----

    /** Promise 2. */
    public int rain(int week, int v) {
        if (!Season.isWeek(week)) {
            return refuseAsTold(NOBODY);
        }
        int wrong = misfit(v, Season.MISSING, Season.MOST_RAIN);
        return wrong != 0 ? refuseAsTold(wrong) : season.tell(week, v);
    }

    /** Promise 3. */
    public int rainOf(int week) {
        return Season.isWeek(week) ? season.counted(week) : refuse(NOBODY);
    }

    /** Promise 11. */
    public int close() {
        if (season.year >= LAST_YEAR) {
            return refuse(ROOM);
        }
        houses.settle();
        season.turn();
        return season.year;
    }

    /** Promise 20. */
    public int weeks(int n) {
        int wrong = misfit(n, 1, WEEKS - season.week);
        if (wrong != 0) {
            return refuse(wrong);
        }
        for (int passed = 0; passed < n; passed++) {
            passWeek();
        }
        return season.week;
    }

    private void passWeek() {
        span.soak(season.wetOf(season.week));
        for (int place = 0; place < PLACES; place++) {
            if (span.ropeAt(place) != null && span.strengthAt(place, season.year, 0) == 0) {
                breaks.keep(span.takeFrom(place), season.year, season.week);
            }
        }
        season.week++;
    }

    // ---- houses, what they bring and what they owe ----

    /** Promise 4. */
    public int house(int village, int hands) {
        if (village < 0 || village >= VILLAGES) {
            return refuse(NOBODY);
        }
        int wrong = misfit(hands, 1, House.MOST);
        if (wrong == 0 && houses.count >= MOST_HOUSES) {
            wrong = ROOM;
        }
        return wrong != 0 ? refuse(wrong) : houses.found(village, hands);
    }

    /** Promise 5. */
    public int set(int house, int what, int v) {
        House it = houses.find(house);
        if (it == null) {
            return refuse(NOBODY);
        }
        if (what < 0 || what > 2) {
            return refuse(OTHER);
        }
        int wrong = what == 2 ? misfit(v, 0, 1) : misfit(v, 1, House.MOST);
        return wrong != 0 ? refuse(wrong) : it.become(what, v);
    }

    /** Promise 6. */
    public int bring(int house, int fathoms, int doubt) {
        House it = houses.find(house);
        if (it == null) {
            return refuse(NOBODY);
        }
        if (!it.here || it.cordsLaid > 0) {
            return refuse(STATE);
        }
        int wrong = first(misfit(fathoms, 0, MOST_FATHOMS), misfit(doubt, 0, MOST_DOUBT));
        if (wrong != 0) {
            return refuse(wrong);
        }
        it.fathoms = fathoms;
        it.doubt = doubt;
        return it.cordsLeft();
    }

    /** Promise 7. */
    public int brought(int village, int what) {
        if (village < -1 || village >= VILLAGES) {
            return refuse(NOBODY);
        }
        return what < 0 || what > 2 ? refuse(OTHER) : houses.fathomsOf(village, what);
    }

    /** Promise 8. */
    public int ask(int fathoms) {
        int wrong = misfit(fathoms, 0, MOST_ASKED);
        if (wrong != 0) {
            return refuse(wrong);
        }
        int was = houses.asked;
        houses.asked = fathoms;
        return was;
    }

    /** Promise 9. */
    public int share(int house) {
        House it = houses.find(house);
        return it == null ? refuse(NOBODY) : houses.shareOf(it);
    }

    /** Promise 10. */
    public int owed(int house) {
        House it = houses.find(house);
        return it == null ? refuseAsTold(NOBODY) : it.owed;
    }

    // ---- ropes ----

    /** Promise 12. */
    public int small(int a, int b, int c) {
        House first = houses.find(a);
        House second = houses.find(b);
        House third = houses.find(c);
        if (first == null || second == null || third == null) {
            return refuse(NOBODY);
        }
        if (first.cordsLeft() < timesAmong(a, a, b, c) || second.cordsLeft() < timesAmong(b, a, b, c)
                || third.cordsLeft() < timesAmong(c, a, b, c)) {
            return refuse(STATE);
        }
        return yard.isFull() ? refuse(ROOM) : yard.twist(first, second, third, season.year);
    }

    private static int timesAmong(int it, int a, int b, int c) {
        return (it == a ? 1 : 0) + (it == b ? 1 : 0) + (it == c ? 1 : 0);
    }

    /** Promise 13. */
    public int lay(int a, int b, int c) {
        Rope first = yard.find(a);
        Rope second = yard.find(b);
        Rope third = yard.find(c);
        if (first == null || second == null || third == null || a == b || b == c || a == c) {
            return refuse(NOBODY);
        }
        if (first.kind == GREAT || second.kind != first.kind || third.kind != first.kind) {
            return refuse(OTHER);
        }
        int year = season.year;
        if (!first.isFree(year) || !second.isFree(year) || !third.isFree(year)) {
            return refuse(STATE);
        }
        return yard.isFull() ? refuse(ROOM) : yard.join(first, second, third, year);
    }

    /** Promise 24. */
    public int strands(int rope, int house) {
        Rope it = yard.find(rope);
        return it == null || houses.find(house) == null ? refuse(NOBODY) : it.cordsOf(house);
    }

    /** Promise 32. */
    public int ropeOf(int rope, int what) {
        Rope it = yard.find(rope);
        if (it == null) {
            return refuse(NOBODY);
        }
        switch (what) {
            case 0: return it.kind;
            case 1: return it.soundness;
            case 2: return it.isFree(season.year) ? 1 : 0;
            case 3: return it.place;
            case 4: return it.yearLaid;
            default: return refuse(OTHER);
        }
    }

    // ---- the bridge ----

    /** Promise 14. */
    public int hang(int rope, int place) {
        Rope it = yard.find(rope);
        if (it == null || !Span.isPlace(place)) {
            return refuse(NOBODY);
        }
        if (it.kind != GREAT) {
            return refuse(OTHER);
        }
        if (!it.isFree(season.year) || span.ropeAt(place) != null) {
            return refuse(STATE);
        }
        span.put(it, place, season.year);
        return 1;
    }

    /** Promise 15. */
    public int cut(int place) {
        if (!Span.isPlace(place)) {
            return refuse(NOBODY);
        }
        Rope gone = span.takeFrom(place);
        return gone == null ? refuse(STATE) : gone.number;
    }

    /** Promise 16. */
    public int tension(int place, int v) {
        if (!Span.isPlace(place)) {
            return refuse(NOBODY);
        }
        if (span.ropeAt(place) == null) {
            return refuse(STATE);
        }
        int wrong = misfit(v, 0, MOST_TENSION);
        return wrong != 0 ? refuse(wrong) : span.tighten(place, v);
    }

    /** Promise 17. */
    public int strength(int place) {
        return Span.isPlace(place) ? span.strengthAt(place, season.year, 0) : refuse(NOBODY);
    }

    /** Promise 18. */
    public int bears() {
        return span.bearing(season.year, 0);
    }

    /** Promise 19. */
    public int load(int v) {
        int wrong = misfit(v, 0, MOST_LOAD);
        if (wrong != 0) {
            return refuse(wrong);
        }
        return span.lets(v, season.year, 0) ? 1 : 0;
    }

    /**
     * Promise 21. Breaks need not be played: a rope of STRENGTH 0 lets as little as an empty
     * place, and no strength rises as weeks pass.
     */
    public int till(int load) {
        int wrong = misfit(load, 0, MOST_LOAD);
        if (wrong != 0) {
            return refuse(wrong);
        }
        if (!span.lets(load, season.year, 0)) {
            return 0;
        }
        int moreWet = 0;
        for (int week = season.week; week < WEEKS; week++) {
            moreWet += season.wetOf(week);
            if (!span.lets(load, season.year, moreWet)) {
                return week - season.week + 1;
            }
        }
        return NONE;
    }

    /** Promise 22. */
    public int broken(int i, int what) {
        if (what < 0 || what > 2) {
            return refuse(OTHER);
        }
        Break it = breaks.find(i);
        if (it == null) {
            return NONE;
        }
        return what == 0 ? it.rope.number : what == 1 ? it.year : it.week;
    }

    /** Promise 23. */
    public int blame(int i, int house) {
        Break it = breaks.find(i);
        return it == null || houses.find(house) == null ? refuse(NOBODY) : it.rope.weakestOf(house);
    }

    // ---- the work of a year ----

    /** Promise 25. */
    public int step(int kind, int arg, int days, int hands, int after) {
        if (kind < LEAD || kind > TUNE) {
            return refuse(OTHER);
        }
        // TENSION is 0 .. 99, so that an arg below 0 can only be of a place below 0.
        int place = kind == TUNE ? Math.floorDiv(arg, 100) : arg;
        if (!Span.isPlace(place) || !work.areTold(after)) {
            return refuse(NOBODY);
        }
        int wrong = first(misfit(days, 1, MOST_DAYS), misfit(hands, 1, MOST_HANDS));
        if (wrong == 0 && work.count >= MOST_STEPS) {
            wrong = ROOM;
        }
        return wrong != 0 ? refuse(wrong) : work.tell(kind, place, days, hands, after);
    }

    /** Promise 26. */
    public int clear() {
        return work.forget();
    }

    /** Promise 27. */
    public int plan() {
        if (work.count > MOST_PLANNED) {
            return refuse(ROOM);
        }
        planner.see(span.hungSet(), houses.handsHere());
        return planner.fewestDays();
    }

    /** Promise 28. */
    public int planAt(int k) {
        if (work.count > MOST_PLANNED) {
            return refuse(ROOM);
        }
        planner.see(span.hungSet(), houses.handsHere());
        return planner.stepAt(k);
    }

    // ---- people ----

    /** Promise 29. */
    public int person(int parent, int born) {
        if (parent != NO_PARENT && !people.isKnown(parent)) {
            return refuse(NOBODY);
        }
        int wrong = misfit(born, -GREATEST_BIRTH, GREATEST_BIRTH);
        if (wrong == 0 && people.count >= MOST_PEOPLE) {
            wrong = ROOM;
        }
        if (wrong == 0 && parent != NO_PARENT && born < people.birthOf(parent)) {
            wrong = STATE;
        }
        return wrong != 0 ? refuse(wrong) : people.add(parent, born);
    }

    /** Promise 30. */
    public int alive(int person, boolean on) {
        if (!people.isKnown(person)) {
            return refuse(NOBODY);
        }
        return people.turn(person, on) ? 1 : 0;
    }

    /** Promise 31. */
    public int master() {
        return people.firstOfAge(season.year);
    }

    /** Promise 33. */
    public int count(int what) {
        switch (what) {
            case 0: return season.year;
            case 1: return season.week;
            case 2: return houses.count;
            case 3: return yard.count;
            case 4: return houses.handsHere();
            case 5: return breaks.count;
            case 6: return work.count;
            case 7: return people.count;
            default: return what >= 11 && what <= 16 ? refusals[what - 10] : NONE;
        }
    }

    // ---- what the bridge is made of ----

    /** The year, the week that comes next in it, and the rain that is told of its weeks. */
    private static final class Season {
        static final int MISSING = -1;
        static final int MOST_RAIN = 9;
        private static final int UNTOLD_QUARTER = 5;
        private static final int QUARTER = 13;
        private static final int HEAVY = 7;

        int year;
        int week;
        final int[] told = new int[WEEKS];

        Season() {
            forgetRain();
        }

        static boolean isWeek(int week) {
            return week >= 0 && week < WEEKS;
        }

        private void forgetRain() {
            for (int i = 0; i < WEEKS; i++) {
                told[i] = MISSING;
            }
        }

        int tell(int of, int v) {
            if (!isWeek(of)) {
                return MISSING;
            }
            int was = told[of];
            told[of] = v;
            return was;
        }

        int counted(int of) {
            if (!isWeek(of)) {
                return 0;
            }
            if (told[of] != MISSING) {
                return told[of];
            }
            int from = of / QUARTER * QUARTER;
            int most = MISSING;
            for (int i = from; i < from + QUARTER && i < WEEKS; i++) {
                most = Math.max(most, told[i]);
            }
            return most == MISSING ? UNTOLD_QUARTER : most;
        }

        int wetOf(int of) {
            int rain = counted(of);
            return rain >= HEAVY ? 2 * rain : rain;
        }

        void turn() {
            year++;
            week = 0;
            forgetRain();
        }
    }

    /** A house: its hands, and what it brought this year and owes over the years. */
    private static final class House {
        static final int MOST = 9;
        private static final int CARE_AT_FIRST = 5;
        private static final int FATHOMS_OF_A_CORD = 10;

        final int number;
        final int village;
        int hands;
        int care = CARE_AT_FIRST;
        boolean here = true;
        int fathoms;
        int doubt;
        int cordsLaid;
        int owed;

        House(int number, int village, int hands) {
            this.number = number;
            this.village = village;
            this.hands = hands;
        }

        int cordsLeft() {
            return fathoms / FATHOMS_OF_A_CORD - cordsLaid;
        }

        /** What 0 hands, 1 care, 2 here becomes v: what it was. */
        int become(int what, int v) {
            int was;
            if (what == 0) {
                was = hands;
                hands = v;
            } else if (what == 1) {
                was = care;
                care = v;
            } else {
                was = here ? 1 : 0;
                here = v == 1;
            }
            return was;
        }

        /** Fathoms brought: the least there may be (0), as told (1), the greatest (2). */
        int fathomsAs(int what) {
            return what == 0 ? Math.max(0, fathoms - doubt) : what == 1 ? fathoms : fathoms + doubt;
        }

        void beginYear() {
            fathoms = 0;
            doubt = 0;
            cordsLaid = 0;
        }
    }

    /** All houses, and how what is asked is parted among them. */
    private static final class Houses {
        final House[] all = new House[MOST_HOUSES];
        private final int[] shares = new int[MOST_HOUSES];
        int count;
        int asked;

        House find(int i) {
            return i >= 0 && i < count && i < MOST_HOUSES ? all[i] : null;
        }

        int found(int village, int hands) {
            if (count >= MOST_HOUSES) {
                return ROOM;
            }
            all[count] = new House(count, village, hands);
            return count++;
        }

        int handsHere() {
            int sum = 0;
            for (int i = 0; i < count; i++) {
                if (all[i].here) {
                    sum += all[i].hands;
                }
            }
            return sum;
        }

        int fathomsOf(int village, int what) {
            int sum = 0;
            for (int i = 0; i < count; i++) {
                if (village == -1 || all[i].village == village) {
                    sum += all[i].fathomsAs(what);
                }
            }
            return sum;
        }

        int shareOf(House it) {
            int hands = handsHere();
            if (!it.here || hands <= 0) {
                return 0;
            }
            int left = asked;
            int ahead = 0;
            for (int i = 0; i < count; i++) {
                House other = all[i];
                if (other.here) {
                    left -= asked * other.hands / hands;
                    ahead += goesAhead(other, it) ? 1 : 0;
                }
            }
            // What is left over is less than there are houses here: none has two of it.
            return asked * it.hands / hands + (ahead < left ? 1 : 0);
        }

        private static boolean goesAhead(House other, House it) {
            return other.owed > it.owed || other.owed == it.owed && other.number < it.number;
        }

        /** Shares hang on what all have owed so far, so all are told before one is changed. */
        void settle() {
            for (int i = 0; i < count; i++) {
                shares[i] = shareOf(all[i]);
            }
            for (int i = 0; i < count; i++) {
                all[i].owed += shares[i] - all[i].fathoms;
                all[i].beginYear();
            }
        }
    }

    /** A rope of any kind, its cords led back to their houses. */
    private static final class Rope {
        final int number;
        final int kind;
        final int soundness;
        final int yearLaid;
        /** The house of each cord, and the care that it had when the cord was laid. */
        final int[] owners;
        final int[] cares;
        boolean laidOn;
        boolean hungOnce;
        int place = NONE;

        Rope(int number, int kind, int soundness, int yearLaid, int[] owners, int[] cares) {
            this.number = number;
            this.kind = kind;
            this.soundness = soundness;
            this.yearLaid = yearLaid;
            this.owners = owners;
            this.cares = cares;
        }

        boolean isFree(int year) {
            return !laidOn && !hungOnce && yearLaid == year;
        }

        int cordsOf(int house) {
            int cords = 0;
            for (int i = 0; i < owners.length; i++) {
                cords += owners[i] == house ? 1 : 0;
            }
            return cords;
        }

        /**
         * How many cords of the least care in the rope a house has. The least soundness of its
         * small ropes is that care, and a cord of that care lies in no sounder one.
         */
        int weakestOf(int house) {
            int least = House.MOST;
            for (int i = 0; i < cares.length; i++) {
                least = Math.min(least, cares[i]);
            }
            int cords = 0;
            for (int i = 0; i < cares.length && i < owners.length; i++) {
                cords += owners[i] == house && cares[i] == least ? 1 : 0;
            }
            return cords;
        }
    }

    /** All ropes that were ever laid. */
    private static final class RopeYard {
        private static final int LOST_IN_LAYING = 2;

        final Rope[] ropes = new Rope[MOST_ROPES];
        int count;

        Rope find(int i) {
            return i >= 0 && i < count && i < MOST_ROPES ? ropes[i] : null;
        }

        boolean isFull() {
            return count >= MOST_ROPES;
        }

        int twist(House a, House b, House c, int year) {
            int[] owners = {a.number, b.number, c.number};
            int[] cares = {a.care, b.care, c.care};
            a.cordsLaid++;
            b.cordsLaid++;
            c.cordsLaid++;
            int soundness = Math.min(a.care, Math.min(b.care, c.care));
            return keep(new Rope(count, SMALL, soundness, year, owners, cares));
        }

        int join(Rope a, Rope b, Rope c, int year) {
            a.laidOn = true;
            b.laidOn = true;
            c.laidOn = true;
            int soundness = Math.max(1, a.soundness + b.soundness + c.soundness - LOST_IN_LAYING);
            int[] owners = joined(a.owners, b.owners, c.owners);
            int[] cares = joined(a.cares, b.cares, c.cares);
            return keep(new Rope(count, a.kind + 1, soundness, year, owners, cares));
        }

        private static int[] joined(int[] a, int[] b, int[] c) {
            int[] all = new int[a.length + b.length + c.length];
            System.arraycopy(a, 0, all, 0, a.length);
            System.arraycopy(b, 0, all, a.length, b.length);
            System.arraycopy(c, 0, all, a.length + b.length, c.length);
            return all;
        }

        private int keep(Rope rope) {
            if (isFull()) {
                return ROOM;
            }
            ropes[count] = rope;
            return count++;
        }
    }

    /** What hangs at the places of the bridge. */
    private static final class Span {
        private static final int FLOOR = 4;
        private static final int TENSION_AT_FIRST = 50;
        private static final int LOST_IN_A_YEAR = 40;
        /** No rope is stronger: 27 cords of care 9, 10 times. */
        private static final int MOST_STRENGTH = 2430;

        private final Rope[] ropes = new Rope[PLACES];
        private final int[] tensions = new int[PLACES];
        private final int[] wet = new int[PLACES];
        private final int[] yearHung = new int[PLACES];

        static boolean isPlace(int place) {
            return place >= 0 && place < PLACES;
        }

        Rope ropeAt(int place) {
            return isPlace(place) ? ropes[place] : null;
        }

        void put(Rope rope, int place, int year) {
            if (!isPlace(place)) {
                return;
            }
            ropes[place] = rope;
            tensions[place] = TENSION_AT_FIRST;
            wet[place] = 0;
            yearHung[place] = year;
            rope.hungOnce = true;
            rope.place = place;
        }

        /** The rope that was there, or null. */
        Rope takeFrom(int place) {
            Rope gone = ropeAt(place);
            if (gone != null) {
                ropes[place] = null;
                gone.place = NONE;
            }
            return gone;
        }

        int tighten(int place, int v) {
            if (!isPlace(place)) {
                return 0;
            }
            int was = tensions[place];
            tensions[place] = v;
            return was;
        }

        void soak(int moreWet) {
            for (int i = 0; i < PLACES; i++) {
                wet[i] += moreWet;
            }
        }

        /** Strength in a year, if so much more wet than now had come. */
        int strengthAt(int place, int year, int moreWet) {
            Rope rope = ropeAt(place);
            if (rope == null) {
                return 0;
            }
            int lost = (wet[place] + moreWet) / 3 + LOST_IN_A_YEAR * (year - yearHung[place]);
            return Math.max(0, rope.soundness * 10 - lost);
        }

        int bearing(int year, int moreWet) {
            int least = MOST_STRENGTH;
            int slackest = MOST_TENSION;
            int tightest = 0;
            for (int i = 0; i < FLOOR; i++) {
                if (ropes[i] == null) {
                    return 0;
                }
                least = Math.min(least, strengthAt(i, year, moreWet));
                slackest = Math.min(slackest, tensions[i]);
                tightest = Math.max(tightest, tensions[i]);
            }
            return Math.max(0, FLOOR * least - (tightest - slackest));
        }

        boolean lets(int load, int year, int moreWet) {
            for (int i = FLOOR; i < PLACES; i++) {
                if (strengthAt(i, year, moreWet) == 0) {
                    return false;
                }
            }
            return load <= bearing(year, moreWet);
        }

        /** The places where a rope hangs, a bit each. */
        int hungSet() {
            int set = 0;
            for (int i = 0; i < PLACES; i++) {
                set |= ropes[i] == null ? 0 : 1 << i;
            }
            return set;
        }
    }

    /** A rope that broke, in the year and as the week ended. */
    private static final class Break {
        final Rope rope;
        final int year;
        final int week;

        Break(Rope rope, int year, int week) {
            this.rope = rope;
            this.year = year;
            this.week = week;
        }
    }

    /** The first breaks of all. */
    private static final class Breaks {
        final Break[] kept = new Break[MOST_KEPT];
        int count;

        Break find(int i) {
            return i >= 0 && i < count && i < MOST_KEPT ? kept[i] : null;
        }

        void keep(Rope rope, int year, int week) {
            if (rope != null && count < MOST_KEPT) {
                kept[count] = new Break(rope, year, week);
                count++;
            }
        }
    }

    /** The steps as they were told. To what number a tension comes is of no matter to a plan. */
    private static final class Work {
        final int[] kinds = new int[MOST_STEPS];
        final int[] places = new int[MOST_STEPS];
        final int[] days = new int[MOST_STEPS];
        final int[] hands = new int[MOST_STEPS];
        final int[] afters = new int[MOST_STEPS];
        int count;
        /** How often the steps have changed, so that a plan can tell whether it is stale. */
        int changes;

        boolean areTold(int set) {
            return set >= 0 && set < 1 << count;
        }

        int tell(int kind, int place, int daysOf, int handsOf, int after) {
            if (count >= MOST_STEPS) {
                return ROOM;
            }
            kinds[count] = kind;
            places[count] = place;
            days[count] = daysOf;
            hands[count] = handsOf;
            afters[count] = after;
            changes++;
            return count++;
        }

        int forget() {
            int were = count;
            count = 0;
            changes++;
            return were;
        }
    }

    /**
     * Finds the best plan. What hangs, how many ropes were led over and what is still to do follow
     * from the SET of the steps done, so the days to the end are found for each set, from the last
     * back; then the row is chosen step by step, the least number first that keeps the fewest days.
     */
    private static final class Planner {
        private static final int SETS = 1 << MOST_PLANNED;
        private static final int FLOOR_SET = 15;
        private static final int NEVER = 1000000;

        private final Work work;
        private final int[] hung = new int[SETS];
        private final int[] handsTogether = new int[SETS];
        private final int[] longest = new int[SETS];
        private final int[] rest = new int[SETS];
        private final int[] open = new int[SETS];
        private final int[] row = new int[MOST_PLANNED];
        /** The steps done ahead of each place of the row, and the fewest days that they take. */
        private final int[] done = new int[MOST_PLANNED + 1];
        private final int[] spent = new int[MOST_PLANNED + 1];
        private int steps;
        private int leads;
        private int tunes;
        private int seenHung = -1;
        private int seenHands = -1;
        private int seenChanges = -1;

        Planner(Work work) {
            this.work = work;
        }

        int fewestDays() {
            return rest[0] >= NEVER ? NONE : rest[0];
        }

        int stepAt(int k) {
            return rest[0] >= NEVER || k < 0 || k >= steps || k >= MOST_PLANNED ? NONE : row[k];
        }

        /** Plans from the bridge as it is, unless it is planned so already. */
        void see(int hungNow, int hands) {
            if (work.count > MOST_PLANNED
                    || hungNow == seenHung && hands == seenHands && work.changes == seenChanges) {
                return;
            }
            seenHung = hungNow;
            seenHands = hands;
            seenChanges = work.changes;
            steps = work.count;
            sumSets();
            measureRests();
            if (rest[0] < NEVER) {
                chooseRow();
            }
        }

        private void sumSets() {
            leads = 0;
            tunes = 0;
            hung[0] = seenHung;
            for (int s = 0; s < steps; s++) {
                leads |= work.kinds[s] == LEAD ? 1 << s : 0;
                tunes |= work.kinds[s] == TUNE ? 1 << s : 0;
                int moved = work.kinds[s] == TUNE ? 0 : 1 << work.places[s];
                int bit = 1 << s;
                for (int set = bit; set < 2 * bit && set < SETS; set++) {
                    int without = set - bit;
                    hung[set] = hung[without] ^ moved;
                    handsTogether[set] = handsTogether[without] + work.hands[s];
                    longest[set] = Math.max(longest[without], work.days[s]);
                }
            }
        }

        private void measureRests() {
            int all = (1 << steps) - 1;
            rest[all] = 0;
            for (int set = all - 1; set >= 0; set--) {
                open[set] = openFrom(set);
                rest[set] = restFrom(set);
            }
        }

        private int restFrom(int set) {
            int least = NEVER;
            for (int s = 0; s < steps; s++) {
                if (may(set, s)) {
                    // A group is met once, at the least of its steps.
                    int others = work.kinds[s] == TUNE ? open[set] & -(2 << s) : 0;
                    least = Math.min(least, restGrouped(set, 1 << s, others));
                }
            }
            return least;
        }

        /** The fewest days from a set on, if a group is done next that is begun and may grow. */
        private int restGrouped(int set, int begun, int others) {
            int least = NEVER;
            int grown = others;
            for (int turn = 0; turn < SETS; turn++) {
                int group = begun | grown;
                if (handsTogether[group] <= seenHands) {
                    least = Math.min(least, longest[group] + rest[set | group]);
                }
                if (grown == 0) {
                    break;
                }
                grown = (grown - 1) & others;
            }
            return least;
        }

        /** The steps of kind TUNE that may be done next: none of them is AFTER another. */
        private int openFrom(int set) {
            int found = 0;
            for (int s = 0; s < steps; s++) {
                found |= work.kinds[s] == TUNE && may(set, s) ? 1 << s : 0;
            }
            return found;
        }

        /** Whether a step may be done next, when the steps of a set are done. */
        private boolean may(int set, int s) {
            int bit = 1 << s;
            if ((set & bit) != 0 || (work.afters[s] & ~set) != 0 || work.hands[s] > seenHands) {
                return false;
            }
            int own = 1 << work.places[s];
            boolean empty = (hung[set] & own) == 0;
            boolean twoStay = Integer.bitCount(hung[set] & FLOOR_SET & ~own) >= 2;
            if (work.kinds[s] == LEAD) {
                return empty && (twoStay || Integer.bitCount(set & leads) < 2);
            }
            if (work.kinds[s] == AWAY_WITH) {
                return !empty && (twoStay || ((leads | tunes) & ~set) == 0);
            }
            return !empty && twoStay;
        }

        private void chooseRow() {
            for (int k = 0; k < steps; k++) {
                int next = firstOfBest(k);
                row[k] = next;
                done[k + 1] = done[k] | 1 << next;
                spent[k + 1] = spentWith(k);
            }
        }

        private int firstOfBest(int k) {
            int first = 0;
            for (int s = steps - 1; s >= 0; s--) {
                if (may(done[k], s) && daysWith(k, s) == rest[0]) {
                    first = s;
                }
            }
            return first;
        }

        /** The fewest days of all, if the row goes on with a step behind the first k. */
        private int daysWith(int k, int s) {
            int group = 1 << s;
            int others = work.kinds[s] == TUNE ? open[done[k]] & ~group : 0;
            int least = spent[k] + restGrouped(done[k], group, others);
            for (int from = k - 1; from >= 0; from--) {
                group |= 1 << row[from];
                int openThen = open[done[from]];
                if ((group & ~openThen) != 0) {
                    break;
                }
                least = Math.min(least, spent[from] + restGrouped(done[from], group, openThen & ~group));
            }
            return least;
        }

        /** The fewest days of the first k of the row and the next one, which ends a group. */
        private int spentWith(int k) {
            int group = 1 << row[k];
            int least = spent[k] + longest[group];
            for (int from = k - 1; from >= 0; from--) {
                group |= 1 << row[from];
                if ((group & ~open[done[from]]) != 0 || handsTogether[group] > seenHands) {
                    break;
                }
                least = Math.min(least, spent[from] + longest[group]);
            }
            return least;
        }
    }

    /** People, their parents, and the line in which they become masters. */
    private static final class People {
        private final int[] parents = new int[MOST_PEOPLE];
        private final int[] births = new int[MOST_PEOPLE];
        private final boolean[] living = new boolean[MOST_PEOPLE];
        /** The order among those of one parent: by birth, of those without parent by number alone. */
        private final int[] ranks = new int[MOST_PEOPLE];
        int count;

        boolean isKnown(int i) {
            return i >= 0 && i < count && i < MOST_PEOPLE;
        }

        int birthOf(int i) {
            return isKnown(i) ? births[i] : 0;
        }

        int add(int parent, int born) {
            if (count >= MOST_PEOPLE) {
                return ROOM;
            }
            parents[count] = parent;
            births[count] = born;
            living[count] = true;
            ranks[count] = (parent == NO_PARENT ? 0 : born + GREATEST_BIRTH) * MOST_PEOPLE + count;
            return count++;
        }

        /** Whether that changed anything. */
        boolean turn(int i, boolean on) {
            if (!isKnown(i) || living[i] == on) {
                return false;
            }
            living[i] = on;
            return true;
        }

        int firstOfAge(int year) {
            int at = nextOf(NO_PARENT, -1);
            for (int met = 0; met < count && isKnown(at); met++) {
                if (living[at] && year - births[at] >= OF_AGE) {
                    return at;
                }
                at = behind(at);
            }
            return NONE;
        }

        /** Who comes next by line: the first child, or the next of one's own, or of one's parents'. */
        private int behind(int person) {
            int next = nextOf(person, -1);
            int from = person;
            for (int up = 0; up < MOST_PEOPLE && next == NONE && isKnown(from); up++) {
                next = nextOf(parents[from], ranks[from]);
                from = parents[from];
            }
            return next;
        }

        /** Of those of one parent the first behind a rank, or NONE. */
        private int nextOf(int parent, int rank) {
            int next = NONE;
            for (int i = 0; i < count; i++) {
                boolean later = parents[i] == parent && ranks[i] > rank;
                if (later && (next == NONE || ranks[i] < ranks[next])) {
                    next = i;
                }
            }
            return next;
        }
    }
}
