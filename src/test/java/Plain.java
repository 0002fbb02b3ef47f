import java.util.ArrayList;
import java.util.Comparator;
import java.util.List;

/**
 * The document written down a second time, sentence by sentence and without a thought of what it
 * costs, to be asked beside the class. Of its calls each has the name that it has in the document.
 */
final class Plain {
    private static final int AS_TOLD = 1000000000;

    private static final class House {
        int village;
        int hands;
        int care = 5;
        boolean here = true;
        int fathoms;
        int doubt;
        int laid;
        int owed;
    }

    private static final class Rope {
        int kind;
        int soundness;
        int year;
        boolean laid;
        boolean wasHung;
        int tension = 50;
        int wet;
        int yearHung;
        /** Of a small one. */
        final List<Integer> houses = new ArrayList<>();
        final List<Integer> cares = new ArrayList<>();
        /** Of the others. */
        final List<Rope> parts = new ArrayList<>();

        List<Rope> smallOnes() {
            List<Rope> all = new ArrayList<>();
            if (kind == 0) {
                all.add(this);
            }
            for (Rope part : parts) {
                all.addAll(part.smallOnes());
            }
            return all;
        }
    }

    private static final class Person {
        int parent;
        int born;
        boolean alive = true;
    }

    private int year;
    private int week;
    private int asked;
    private final int[] told = new int[52];
    private final int[] refusals = new int[7];
    private final List<House> houses = new ArrayList<>();
    private final List<Rope> ropes = new ArrayList<>();
    private final Rope[] hung = new Rope[6];
    private final List<int[]> broken = new ArrayList<>();
    private final List<int[]> steps = new ArrayList<>();
    private final List<Person> people = new ArrayList<>();

    Plain() {
        allMissing();
    }

    private void allMissing() {
        for (int i = 0; i < 52; i++) {
            told[i] = -1;
        }
    }

    private int no(int number) {
        refusals[-number]++;
        return number;
    }

    private static boolean among(int i, List<?> all) {
        return i >= 0 && i < all.size();
    }

    public int rain(int of, int v) {
        if (of < 0 || of > 51) {
            return AS_TOLD - no(-1);
        }
        if (v < -1) {
            return AS_TOLD - no(-4);
        }
        if (v > 9) {
            return AS_TOLD - no(-6);
        }
        int was = told[of];
        told[of] = v;
        return was;
    }

    public int rainOf(int of) {
        if (of < 0 || of > 51) {
            return no(-1);
        }
        return counts(of);
    }

    private int counts(int of) {
        if (told[of] >= 0) {
            return told[of];
        }
        int q = of / 13;
        int greatest = -1;
        for (int i = 13 * q; i <= 13 * q + 12; i++) {
            greatest = Math.max(greatest, told[i]);
        }
        return greatest < 0 ? 5 : greatest;
    }

    private int wet(int of) {
        return counts(of) >= 7 ? 2 * counts(of) : counts(of);
    }

    public int house(int village, int hands) {
        if (village < 0 || village > 3) {
            return no(-1);
        }
        if (hands < 1) {
            return no(-4);
        }
        if (hands > 9 || houses.size() == 24) {
            return no(-6);
        }
        House it = new House();
        it.village = village;
        it.hands = hands;
        houses.add(it);
        return houses.size() - 1;
    }

    public int set(int house, int what, int v) {
        if (!among(house, houses)) {
            return no(-1);
        }
        if (what != 0 && what != 1 && what != 2) {
            return no(-2);
        }
        if (v < (what == 2 ? 0 : 1)) {
            return no(-4);
        }
        if (v > (what == 2 ? 1 : 9)) {
            return no(-6);
        }
        House it = houses.get(house);
        int was = what == 0 ? it.hands : what == 1 ? it.care : it.here ? 1 : 0;
        if (what == 0) {
            it.hands = v;
        }
        if (what == 1) {
            it.care = v;
        }
        if (what == 2) {
            it.here = v == 1;
        }
        return was;
    }

    public int bring(int house, int fathoms, int doubt) {
        if (!among(house, houses)) {
            return no(-1);
        }
        House it = houses.get(house);
        if (!it.here || it.laid > 0) {
            return no(-3);
        }
        if (fathoms < 0 || doubt < 0) {
            return no(-4);
        }
        if (fathoms > 2000 || doubt > 20) {
            return no(-6);
        }
        it.fathoms = fathoms;
        it.doubt = doubt;
        return fathoms / 10;
    }

    public int brought(int village, int what) {
        if (village < -1 || village > 3) {
            return no(-1);
        }
        if (what < 0 || what > 2) {
            return no(-2);
        }
        int sum = 0;
        for (House it : houses) {
            if (village == -1 || it.village == village) {
                int less = Math.max(0, it.fathoms - it.doubt);
                sum += what == 0 ? less : what == 1 ? it.fathoms : it.fathoms + it.doubt;
            }
        }
        return sum;
    }

    public int ask(int fathoms) {
        if (fathoms < 0) {
            return no(-4);
        }
        if (fathoms > 10000) {
            return no(-6);
        }
        int was = asked;
        asked = fathoms;
        return was;
    }

    private int handsHere() {
        int sum = 0;
        for (House it : houses) {
            sum += it.here ? it.hands : 0;
        }
        return sum;
    }

    /** The share of each house, by numbers. */
    private int[] shares() {
        int[] shares = new int[houses.size()];
        List<Integer> inTurn = new ArrayList<>();
        int left = asked;
        for (int i = 0; i < shares.length; i++) {
            if (houses.get(i).here) {
                shares[i] = asked * houses.get(i).hands / handsHere();
                left -= shares[i];
                inTurn.add(i);
            }
        }
        inTurn.sort(Comparator.comparingInt((Integer i) -> -houses.get(i).owed).thenComparingInt(i -> i));
        for (int i : inTurn) {
            if (left > 0) {
                shares[i]++;
                left--;
            }
        }
        return shares;
    }

    public int share(int house) {
        return among(house, houses) ? shares()[house] : no(-1);
    }

    public int owed(int house) {
        return among(house, houses) ? houses.get(house).owed : AS_TOLD - no(-1);
    }

    public int close() {
        if (year == 60) {
            return no(-6);
        }
        int[] shares = shares();
        for (int i = 0; i < shares.length; i++) {
            House it = houses.get(i);
            it.owed = it.owed + shares[i] - it.fathoms;
            it.fathoms = 0;
            it.doubt = 0;
            it.laid = 0;
        }
        year++;
        week = 0;
        allMissing();
        return year;
    }

    public int small(int a, int b, int c) {
        if (!among(a, houses) || !among(b, houses) || !among(c, houses)) {
            return no(-1);
        }
        int[] three = {a, b, c};
        int[] wanted = new int[houses.size()];
        for (int i : three) {
            wanted[i]++;
        }
        for (int i : three) {
            if (houses.get(i).fathoms / 10 - houses.get(i).laid < wanted[i]) {
                return no(-3);
            }
        }
        if (ropes.size() == 200) {
            return no(-6);
        }
        Rope it = new Rope();
        it.soundness = 9;
        for (int i : three) {
            it.houses.add(i);
            it.cares.add(houses.get(i).care);
            it.soundness = Math.min(it.soundness, houses.get(i).care);
            houses.get(i).laid++;
        }
        return keep(it);
    }

    private int keep(Rope it) {
        it.year = year;
        ropes.add(it);
        return ropes.size() - 1;
    }

    private boolean free(Rope it) {
        return !it.laid && !it.wasHung && it.year == year;
    }

    public int lay(int a, int b, int c) {
        if (!among(a, ropes) || !among(b, ropes) || !among(c, ropes) || a == b || a == c || b == c) {
            return no(-1);
        }
        List<Rope> three = List.of(ropes.get(a), ropes.get(b), ropes.get(c));
        for (Rope it : three) {
            if (it.kind == 2 || it.kind != three.get(0).kind) {
                return no(-2);
            }
        }
        for (Rope it : three) {
            if (!free(it)) {
                return no(-3);
            }
        }
        if (ropes.size() == 200) {
            return no(-6);
        }
        Rope rope = new Rope();
        rope.kind = three.get(0).kind + 1;
        int sum = 0;
        for (Rope it : three) {
            it.laid = true;
            sum += it.soundness;
            rope.parts.add(it);
        }
        rope.soundness = Math.max(1, sum - 2);
        return keep(rope);
    }

    private static boolean isPlace(int place) {
        return place >= 0 && place <= 5;
    }

    public int hang(int rope, int place) {
        if (!among(rope, ropes) || !isPlace(place)) {
            return no(-1);
        }
        Rope it = ropes.get(rope);
        if (it.kind != 2) {
            return no(-2);
        }
        if (!free(it) || hung[place] != null) {
            return no(-3);
        }
        it.wasHung = true;
        it.yearHung = year;
        hung[place] = it;
        return 1;
    }

    public int cut(int place) {
        if (!isPlace(place)) {
            return no(-1);
        }
        if (hung[place] == null) {
            return no(-3);
        }
        int number = ropes.indexOf(hung[place]);
        hung[place] = null;
        return number;
    }

    public int tension(int place, int v) {
        if (!isPlace(place)) {
            return no(-1);
        }
        if (hung[place] == null) {
            return no(-3);
        }
        if (v < 0) {
            return no(-4);
        }
        if (v > 99) {
            return no(-6);
        }
        int was = hung[place].tension;
        hung[place].tension = v;
        return was;
    }

    public int strength(int place) {
        return isPlace(place) ? strengths(hung, 0)[place] : no(-1);
    }

    private int[] strengths(Rope[] at, int wetToCome) {
        int[] all = new int[6];
        for (int i = 0; i < 6; i++) {
            if (at[i] != null) {
                int left = at[i].soundness * 10 - (at[i].wet + wetToCome) / 3 - 40 * (year - at[i].yearHung);
                all[i] = Math.max(0, left);
            }
        }
        return all;
    }

    private int ofBridge(Rope[] at, int wetToCome) {
        int least = Integer.MAX_VALUE;
        int tightest = Integer.MIN_VALUE;
        int slackest = Integer.MAX_VALUE;
        for (int i = 0; i <= 3; i++) {
            if (at[i] == null) {
                return 0;
            }
            least = Math.min(least, strengths(at, wetToCome)[i]);
            tightest = Math.max(tightest, at[i].tension);
            slackest = Math.min(slackest, at[i].tension);
        }
        return Math.max(0, 4 * least - (tightest - slackest));
    }

    private boolean lets(int load, Rope[] at, int wetToCome) {
        int[] strengths = strengths(at, wetToCome);
        return load <= ofBridge(at, wetToCome) && strengths[4] > 0 && strengths[5] > 0;
    }

    public int bears() {
        return ofBridge(hung, 0);
    }

    public int load(int v) {
        if (v < 0) {
            return no(-4);
        }
        if (v > 2000) {
            return no(-6);
        }
        return lets(v, hung, 0) ? 1 : 0;
    }

    public int weeks(int n) {
        if (n < 1) {
            return no(-4);
        }
        if (n > 52 - week) {
            return no(-6);
        }
        for (int i = 0; i < n; i++) {
            for (Rope it : hung) {
                if (it != null) {
                    it.wet += wet(week);
                }
            }
            int[] strengths = strengths(hung, 0);
            for (int place = 0; place < 6; place++) {
                if (hung[place] != null && strengths[place] == 0) {
                    if (broken.size() < 40) {
                        broken.add(new int[] {ropes.indexOf(hung[place]), year, week});
                    }
                    hung[place] = null;
                }
            }
            week++;
        }
        return week;
    }

    /** Weeks pass on a bridge of the same ropes, which break as they would. */
    public int till(int load) {
        if (load < 0) {
            return no(-4);
        }
        if (load > 2000) {
            return no(-6);
        }
        Rope[] then = hung.clone();
        int wetToCome = 0;
        for (int n = 0; n <= 52 - week; n++) {
            if (n > 0) {
                wetToCome += wet(week + n - 1);
                int[] strengths = strengths(then, wetToCome);
                for (int place = 0; place < 6; place++) {
                    then[place] = strengths[place] == 0 ? null : then[place];
                }
            }
            if (!lets(load, then, wetToCome)) {
                return n;
            }
        }
        return -9;
    }

    public int broken(int i, int what) {
        if (what < 0 || what > 2) {
            return no(-2);
        }
        return among(i, broken) ? broken.get(i)[what] : -9;
    }

    public int blame(int i, int house) {
        if (!among(i, broken) || !among(house, houses)) {
            return no(-1);
        }
        List<Rope> smallOnes = ropes.get(broken.get(i)[0]).smallOnes();
        int least = 9;
        for (Rope small : smallOnes) {
            least = Math.min(least, small.soundness);
        }
        int cords = 0;
        for (Rope small : smallOnes) {
            for (int cord = 0; cord < 3; cord++) {
                boolean worst = small.soundness == least && small.cares.get(cord) == least;
                cords += worst && small.houses.get(cord) == house ? 1 : 0;
            }
        }
        return cords;
    }

    public int strands(int rope, int house) {
        if (!among(rope, ropes) || !among(house, houses)) {
            return no(-1);
        }
        int cords = 0;
        for (Rope small : ropes.get(rope).smallOnes()) {
            for (int of : small.houses) {
                cords += of == house ? 1 : 0;
            }
        }
        return cords;
    }

    public int step(int kind, int arg, int days, int hands, int after) {
        if (kind != 0 && kind != 1 && kind != 2) {
            return no(-2);
        }
        if (arg < 0 || arg > (kind == 2 ? 599 : 5)) {
            return no(-1);
        }
        if (after < 0 || after >= 1 << steps.size()) {
            return no(-1);
        }
        if (days < 1 || hands < 1) {
            return no(-4);
        }
        if (days > 9 || hands > 60 || steps.size() == 12) {
            return no(-6);
        }
        steps.add(new int[] {kind, kind == 2 ? arg / 100 : arg, days, hands, after});
        return steps.size() - 1;
    }

    public int clear() {
        int were = steps.size();
        steps.clear();
        return were;
    }

    private Rows best() {
        int set = 0;
        for (int place = 0; place < 6; place++) {
            set |= hung[place] == null ? 0 : 1 << place;
        }
        Rows rows = new Rows(set, handsHere());
        for (int[] it : steps) {
            rows.tell(it[0], it[1], it[2], it[3], it[4]);
        }
        rows.tryAll();
        return rows;
    }

    public int plan() {
        return steps.size() > 8 ? no(-6) : best().least;
    }

    public int planAt(int k) {
        if (steps.size() > 8) {
            return no(-6);
        }
        Rows rows = best();
        return rows.least < 0 || k < 0 || k >= steps.size() ? -9 : rows.best[k];
    }

    public int person(int parent, int born) {
        if (parent != -1 && !among(parent, people)) {
            return no(-1);
        }
        if (born < -60) {
            return no(-4);
        }
        if (born > 60 || people.size() == 30) {
            return no(-6);
        }
        if (parent != -1 && born < people.get(parent).born) {
            return no(-3);
        }
        Person it = new Person();
        it.parent = parent;
        it.born = born;
        people.add(it);
        return people.size() - 1;
    }

    public int alive(int person, boolean on) {
        if (!among(person, people)) {
            return no(-1);
        }
        boolean was = people.get(person).alive;
        people.get(person).alive = on;
        return was == on ? 0 : 1;
    }

    public int master() {
        List<Integer> line = new ArrayList<>();
        for (int i = 0; i < people.size(); i++) {
            if (people.get(i).parent == -1) {
                lead(i, line);
            }
        }
        for (int i : line) {
            if (people.get(i).alive && year - people.get(i).born >= 20) {
                return i;
            }
        }
        return -9;
    }

    private void lead(int person, List<Integer> line) {
        line.add(person);
        List<Integer> children = new ArrayList<>();
        for (int i = 0; i < people.size(); i++) {
            if (people.get(i).parent == person) {
                children.add(i);
            }
        }
        children.sort(Comparator.comparingInt((Integer i) -> people.get(i).born).thenComparingInt(i -> i));
        for (int child : children) {
            lead(child, line);
        }
    }

    public int ropeOf(int rope, int what) {
        if (!among(rope, ropes)) {
            return no(-1);
        }
        if (what < 0 || what > 4) {
            return no(-2);
        }
        Rope it = ropes.get(rope);
        int at = -9;
        for (int place = 0; place < 6; place++) {
            at = hung[place] == it ? place : at;
        }
        int[] answers = {it.kind, it.soundness, free(it) ? 1 : 0, at, it.year};
        return answers[what];
    }

    public int count(int what) {
        int[] answers = {year, week, houses.size(), ropes.size(), handsHere(), broken.size(), steps.size(),
            people.size()};
        if (what >= 0 && what <= 7) {
            return answers[what];
        }
        return what >= 11 && what <= 16 ? refusals[what - 10] : -9;
    }
}
