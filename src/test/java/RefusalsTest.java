/**
 * Each refusal of each call: its number, its place among the others of the call where a call fits
 * two of them, and that nothing has changed behind it but how many there were.
 */
public final class RefusalsTest {
    private static final Check check = new Check();
    private static final Twins twins = new Twins(check);
    private static final int[] NO_WEEK = {-1, 52, Integer.MIN_VALUE, Integer.MAX_VALUE};
    private static final int[] NO_HOUSE = {-1, 2, 24, Integer.MIN_VALUE, Integer.MAX_VALUE};
    private static final int[] NO_VILLAGE = {4, Integer.MIN_VALUE, Integer.MAX_VALUE};
    private static final int[] NO_PLACE = {-1, 6, Integer.MIN_VALUE, Integer.MAX_VALUE};
    private static final int[] OTHER_WHAT = {-1, 3, Integer.MIN_VALUE, Integer.MAX_VALUE};

    public static void main(String[] args) {
        rain();
        rainOf();
        house();
        set();
        bring();
        brought();
        ask();
        shareAndOwed();
        close();
        small();
        lay();
        layOfFullYard();
        hang();
        cut();
        tension();
        strength();
        loads();
        weeks();
        broken();
        blame();
        strands();
        step();
        stepBehindTwelve();
        plans();
        person();
        alive();
        ropeOf();
        count();
        check.end();
    }

    /** Two houses with cords, one of them away, some rain told, steps, people, a rope laid. */
    private static GrassBridge inUse() {
        GrassBridge x = new GrassBridge();
        x.ask(777);
        x.house(0, 3);
        x.house(3, 9);
        x.bring(0, 400, 12);
        x.bring(1, 95, 20);
        x.set(1, 1, 2);
        x.set(1, 2, 0);
        x.rain(0, 8);
        x.rain(30, 0);
        int a = x.small(0, 1, 0);
        int b = x.small(0, 0, 0);
        int c = x.small(0, 0, 0);
        x.lay(a, b, c);
        x.hang(Check.great(x, 0), 2);
        x.tension(2, 71);
        x.person(-1, -50);
        x.person(0, -20);
        x.alive(0, false);
        x.step(0, 0, 4, 2, 0);
        x.step(2, 299, 3, 3, 1);
        x.weeks(2);
        return x;
    }

    private static void rain() {
        check.sentence("2: -1; -4; -6");
        for (int week : NO_WEEK) {
            twins.refusedAsTold("rain(" + week + ", 3)", RefusalsTest::inUse, x -> x.rain(week, 3), -1);
            twins.refusedAsTold("rain(" + week + ", -2)", RefusalsTest::inUse, x -> x.rain(week, -2), -1);
            twins.refusedAsTold("rain(" + week + ", 10)", RefusalsTest::inUse, x -> x.rain(week, 10), -1);
        }
        int[] below = {-2, Integer.MIN_VALUE, Integer.MIN_VALUE + 1};
        for (int v : below) {
            twins.refusedAsTold("rain(0, " + v + ")", RefusalsTest::inUse, x -> x.rain(0, v), -4);
        }
        int[] above = {10, Integer.MAX_VALUE, Integer.MAX_VALUE - 1};
        for (int v : above) {
            twins.refusedAsTold("rain(51, " + v + ")", RefusalsTest::inUse, x -> x.rain(51, v), -6);
        }
    }

    private static void rainOf() {
        check.sentence("3: -1");
        for (int week : NO_WEEK) {
            twins.refused("rainOf(" + week + ")", RefusalsTest::inUse, x -> x.rainOf(week), -1);
        }
    }

    private static void house() {
        check.sentence("4: -1; -4; -6 (24, too)");
        int[] villages = {-1, 4, Integer.MIN_VALUE, Integer.MAX_VALUE};
        for (int village : villages) {
            twins.refused("house(" + village + ", 1)", RefusalsTest::inUse, x -> x.house(village, 1), -1);
            twins.refused("house(" + village + ", 0)", RefusalsTest::inUse, x -> x.house(village, 0), -1);
            twins.refused("house(" + village + ", 10)", RefusalsTest::inUse, x -> x.house(village, 10), -1);
        }
        twins.range("house(0, v)", RefusalsTest::inUse, 1, 9, (x, v) -> x.house(0, v), -4, -6);
        Twins.Made full = () -> Check.houses(24);
        twins.refused("house(4, 1) of 24", full, x -> x.house(4, 1), -1);
        twins.refused("house(0, 0) of 24", full, x -> x.house(0, 0), -4);
        twins.refused("house(0, 10) of 24", full, x -> x.house(0, 10), -6);
        twins.refused("house(0, 1) of 24", full, x -> x.house(0, 1), -6);
    }

    private static void set() {
        check.sentence("5: -1; -2; -4; -6");
        for (int house : NO_HOUSE) {
            twins.refused("set(" + house + ", 0, 1)", RefusalsTest::inUse, x -> x.set(house, 0, 1), -1);
            twins.refused("set(" + house + ", 3, 1)", RefusalsTest::inUse, x -> x.set(house, 3, 1), -1);
            twins.refused("set(" + house + ", 1, 0)", RefusalsTest::inUse, x -> x.set(house, 1, 0), -1);
            twins.refused("set(" + house + ", 2, 2)", RefusalsTest::inUse, x -> x.set(house, 2, 2), -1);
        }
        for (int what : OTHER_WHAT) {
            twins.refused("set(0, " + what + ", 1)", RefusalsTest::inUse, x -> x.set(0, what, 1), -2);
            twins.refused("set(0, " + what + ", -9)", RefusalsTest::inUse, x -> x.set(0, what, -9), -2);
            twins.refused("set(0, " + what + ", 99)", RefusalsTest::inUse, x -> x.set(0, what, 99), -2);
        }
        twins.range("set(0, 0, v)", RefusalsTest::inUse, 1, 9, (x, v) -> x.set(0, 0, v), -4, -6);
        twins.range("set(0, 1, v)", RefusalsTest::inUse, 1, 9, (x, v) -> x.set(0, 1, v), -4, -6);
        twins.range("set(0, 2, v)", RefusalsTest::inUse, 0, 1, (x, v) -> x.set(0, 2, v), -4, -6);
    }

    private static GrassBridge brought(int fathoms, int laid) {
        GrassBridge x = Check.houses(2);
        x.bring(0, fathoms, 5);
        x.bring(1, 30, 0);
        if (laid > 0) {
            x.small(0, 1, 1);
        }
        return x;
    }

    private static void bring() {
        check.sentence("6: -1; -3 it is AWAY, or CORDS of it are laid this YEAR; -4; -6");
        Twins.Made free = () -> brought(50, 0);
        for (int house : NO_HOUSE) {
            twins.refused("bring(" + house + ", 1, 1)", free, x -> x.bring(house, 1, 1), -1);
            twins.refused("bring(" + house + ", -1, 0)", free, x -> x.bring(house, -1, 0), -1);
            twins.refused("bring(" + house + ", 0, 21)", free, x -> x.bring(house, 0, 21), -1);
        }
        Twins.Made away = () -> {
            GrassBridge x = brought(50, 0);
            x.set(0, 2, 0);
            return x;
        };
        Twins.Made[] states = {away, () -> brought(50, 1)};
        for (Twins.Made state : states) {
            twins.refused("bring(0, 50, 5) not let", state, x -> x.bring(0, 50, 5), -3);
            twins.refused("bring(0, -1, 0) not let", state, x -> x.bring(0, -1, 0), -3);
            twins.refused("bring(0, 0, -1) not let", state, x -> x.bring(0, 0, -1), -3);
            twins.refused("bring(0, 2001, 0) not let", state, x -> x.bring(0, 2001, 0), -3);
            twins.refused("bring(0, 0, 21) not let", state, x -> x.bring(0, 0, 21), -3);
        }
        twins.range("bring(0, v, 0)", free, 0, 2000, (x, v) -> x.bring(0, v, 0), -4, -6);
        twins.range("bring(0, 9, v)", free, 0, 20, (x, v) -> x.bring(0, 9, v), -4, -6);
        twins.refused("bring(0, -1, 21)", free, x -> x.bring(0, -1, 21), -4);
        twins.refused("bring(0, 2001, -1)", free, x -> x.bring(0, 2001, -1), -4);
        twins.refused("bring(0, -1, -1)", free, x -> x.bring(0, -1, -1), -4);
        twins.refused("bring(0, 2001, 21)", free, x -> x.bring(0, 2001, 21), -6);
    }

    private static void brought() {
        check.sentence("7: -1; -2");
        int[] villages = {-2, 4, Integer.MIN_VALUE, Integer.MAX_VALUE};
        for (int village : villages) {
            twins.refused("brought(" + village + ", 1)", RefusalsTest::inUse, x -> x.brought(village, 1), -1);
            twins.refused("brought(" + village + ", 3)", RefusalsTest::inUse, x -> x.brought(village, 3), -1);
        }
        for (int what : OTHER_WHAT) {
            twins.refused("brought(0, " + what + ")", RefusalsTest::inUse, x -> x.brought(0, what), -2);
            twins.refused("brought(-1, " + what + ")", RefusalsTest::inUse, x -> x.brought(-1, what), -2);
        }
        twins.range("brought(v, 1)", RefusalsTest::inUse, -1, 3, (x, v) -> x.brought(v, 1), -1, -1);
        twins.range("brought(3, v)", RefusalsTest::inUse, 0, 2, (x, v) -> x.brought(3, v), -2, -2);
    }

    private static void ask() {
        check.sentence("8: -4; -6");
        twins.range("ask(v)", RefusalsTest::inUse, 0, 10000, GrassBridge::ask, -4, -6);
    }

    private static void shareAndOwed() {
        check.sentence("9, 10: -1");
        for (int house : NO_HOUSE) {
            twins.refused("share(" + house + ")", RefusalsTest::inUse, x -> x.share(house), -1);
            twins.refusedAsTold("owed(" + house + ")", RefusalsTest::inUse, x -> x.owed(house), -1);
        }
        twins.refused("share(0), no house", GrassBridge::new, x -> x.share(0), -1);
        twins.refusedAsTold("owed(0), no house", GrassBridge::new, x -> x.owed(0), -1);
        twins.range("share(v) of 24", () -> Check.houses(24), 0, 23, GrassBridge::share, -1, -1);
        twins.taken("owed(23) of 24", () -> Check.houses(24), x -> x.owed(23));
    }

    private static void close() {
        check.sentence("11: -6 it is 60");
        Twins.Made last = () -> {
            GrassBridge x = Check.older(new GrassBridge(), 60);
            x.house(0, 1);
            x.ask(7);
            x.bring(0, 40, 0);
            x.rain(9, 9);
            x.weeks(3);
            return x;
        };
        twins.taken("close() of 59", () -> Check.older(new GrassBridge(), 59), GrassBridge::close);
        twins.refused("close() of 60", last, GrassBridge::close, -6);
    }

    private static void small() {
        check.sentence("12: -1; -3 one has not so many CORDS left; -6 there are 200");
        Twins.Made two = () -> brought(50, 0);
        for (int none : NO_HOUSE) {
            twins.refused("small(" + none + ", 0, 0)", two, x -> x.small(none, 0, 0), -1);
            twins.refused("small(0, " + none + ", 0)", two, x -> x.small(0, none, 0), -1);
            twins.refused("small(0, 0, " + none + ")", two, x -> x.small(0, 0, none), -1);
            twins.refused("small, none and no cords", () -> brought(9, 0), x -> x.small(0, none, 0), -1);
            twins.refused("small, none and 200", () -> Check.ropes(200), x -> x.small(3, 3, -1), -1);
        }
        Twins.Made few = () -> brought(29, 0);
        twins.refused("small(0, 0, 0) of 2", few, x -> x.small(0, 0, 0), -3);
        twins.refused("small(0, 1, 1) of none", () -> brought(9, 0), x -> x.small(0, 1, 1), -3);
        twins.refused("small(1, 0, 1) of none", () -> brought(9, 0), x -> x.small(1, 0, 1), -3);
        twins.refused("small(1, 1, 0) of none", () -> brought(9, 0), x -> x.small(1, 1, 0), -3);
        twins.refused("small(0, 0, 1) of 1", () -> brought(19, 0), x -> x.small(0, 0, 1), -3);
        twins.refused("small(0, 1, 0) of 1", () -> brought(19, 0), x -> x.small(0, 1, 0), -3);
        twins.refused("small(1, 0, 0) of 1", () -> brought(19, 0), x -> x.small(1, 0, 0), -3);
        Twins.Made full = () -> {
            GrassBridge x = Check.ropes(200);
            x.house(0, 1);
            return x;
        };
        twins.refused("small, no cords and 200", full, x -> x.small(3, 4, 3), -3);
        twins.refused("small, 200", full, x -> x.small(3, 3, 3), -6);
        twins.taken("small, 199", () -> Check.ropes(199), x -> x.small(3, 3, 3));
    }

    /** Small ones 0, 1, 2, middle ones 12, 13, 14 and 24, a great one 15, more small ones 16 .. 23. */
    private static GrassBridge laid() {
        GrassBridge x = new GrassBridge();
        x.house(0, 1);
        x.bring(0, 2000, 0);
        for (int i = 0; i < 12; i++) {
            x.small(0, 0, 0);
        }
        x.lay(3, 4, 5);
        x.lay(6, 7, 8);
        x.lay(9, 10, 11);
        x.lay(12, 13, 14);
        for (int i = 0; i < 8; i++) {
            x.small(0, 0, 0);
        }
        x.lay(16, 17, 18);
        return x;
    }

    private static void lay() {
        check.sentence("13: -1 (also one twice); -2 of other kinds, GREAT; -3 one is not FREE; -6");
        int[] none = {-1, 25, 199, 200, Integer.MIN_VALUE, Integer.MAX_VALUE};
        for (int rope : none) {
            twins.refused("lay(" + rope + ", 1, 2)", RefusalsTest::laid, x -> x.lay(rope, 1, 2), -1);
            twins.refused("lay(0, " + rope + ", 2)", RefusalsTest::laid, x -> x.lay(0, rope, 2), -1);
            twins.refused("lay(0, 1, " + rope + ")", RefusalsTest::laid, x -> x.lay(0, 1, rope), -1);
            twins.refused("lay(0, 15, " + rope + "), GREAT", RefusalsTest::laid, x -> x.lay(0, 15, rope), -1);
            twins.refused("lay(3, 4, " + rope + "), laid", RefusalsTest::laid, x -> x.lay(3, 4, rope), -1);
        }
        int[][] twice = {{0, 0, 1}, {0, 1, 0}, {1, 0, 0}, {0, 0, 0}, {15, 15, 15}, {0, 15, 0}, {3, 3, 4}};
        for (int[] row : twice) {
            refusedLay(row, -1);
        }
        int[][] kinds = {{0, 1, 24}, {0, 24, 1}, {24, 0, 1}, {0, 1, 15}, {0, 15, 1}, {15, 0, 1}, {24, 15, 0}};
        for (int[] row : kinds) {
            refusedLay(row, -2);
        }
        int[][] kindsAndLaid = {{0, 3, 24}, {12, 13, 0}, {3, 12, 15}, {12, 15, 24}};
        for (int[] row : kindsAndLaid) {
            refusedLay(row, -2);
        }
        int[][] notFree = {{0, 1, 3}, {0, 3, 1}, {3, 0, 1}, {3, 4, 5}, {12, 13, 24}};
        for (int[] row : notFree) {
            refusedLay(row, -3);
        }
        twins.taken("lay(0, 1, 2)", RefusalsTest::laid, x -> x.lay(0, 1, 2));
        Twins.Made old = () -> Check.older(laid(), 1);
        twins.refused("lay(0, 1, 2) of last year", old, x -> x.lay(0, 1, 2), -3);
    }

    private static void refusedLay(int[] row, int number) {
        String call = "lay(" + row[0] + ", " + row[1] + ", " + row[2] + ")";
        twins.refused(call, RefusalsTest::laid, x -> x.lay(row[0], row[1], row[2]), number);
    }

    /** 200 ropes: small ones, a middle one 198 of 0 to 2, and a small one behind it. */
    private static GrassBridge fullYard() {
        GrassBridge x = Check.ropes(198);
        x.lay(0, 1, 2);
        x.small(3, 3, 3);
        return x;
    }

    private static void layOfFullYard() {
        twins.taken("lay, 199", () -> Check.ropes(199), x -> x.lay(0, 1, 2));
        twins.refused("lay(3, 4, 5), 200", RefusalsTest::fullYard, x -> x.lay(3, 4, 5), -6);
        twins.refused("lay(3, 4, 3), 200", RefusalsTest::fullYard, x -> x.lay(3, 4, 3), -1);
        twins.refused("lay(3, 4, 200), 200", RefusalsTest::fullYard, x -> x.lay(3, 4, 200), -1);
        twins.refused("lay(3, 4, 198), 200", RefusalsTest::fullYard, x -> x.lay(3, 4, 198), -2);
        twins.refused("lay(3, 4, 0), 200", RefusalsTest::fullYard, x -> x.lay(3, 4, 0), -3);
    }

    /** Great ropes 12 hung at 0, 25 free, 38 cut from 5; small ones 39 to 42, a middle one 43 of three. */
    private static GrassBridge oneHung() {
        GrassBridge x = Check.hung(1, 1);
        Check.great(x, 0);
        x.hang(Check.great(x, 0), 5);
        x.cut(5);
        for (int i = 0; i < 4; i++) {
            x.small(0, 0, 0);
        }
        x.lay(39, 40, 41);
        return x;
    }

    private static void hang() {
        check.sentence("14: -1; -2 another kind; -3 it is not FREE, or a ROPE is there");
        int[] none = {-1, 44, 200, Integer.MIN_VALUE, Integer.MAX_VALUE};
        for (int rope : none) {
            twins.refused("hang(" + rope + ", 1)", RefusalsTest::oneHung, x -> x.hang(rope, 1), -1);
            twins.refused("hang(" + rope + ", 0), one is there", RefusalsTest::oneHung, x -> x.hang(rope, 0), -1);
            twins.refused("hang(" + rope + ", 6)", RefusalsTest::oneHung, x -> x.hang(rope, 6), -1);
        }
        for (int place : NO_PLACE) {
            twins.refused("hang(25, " + place + ")", RefusalsTest::oneHung, x -> x.hang(25, place), -1);
            twins.refused("hang(43, " + place + "), MIDDLE", RefusalsTest::oneHung, x -> x.hang(43, place), -1);
            twins.refused("hang(12, " + place + "), hung", RefusalsTest::oneHung, x -> x.hang(12, place), -1);
        }
        int[] otherKinds = {42, 43, 39, 9};
        for (int rope : otherKinds) {
            twins.refused("hang(" + rope + ", 1)", RefusalsTest::oneHung, x -> x.hang(rope, 1), -2);
            twins.refused("hang(" + rope + ", 0), one is there", RefusalsTest::oneHung, x -> x.hang(rope, 0), -2);
        }
        twins.refused("hang(12, 1), hung", RefusalsTest::oneHung, x -> x.hang(12, 1), -3);
        twins.refused("hang(12, 0), hung there", RefusalsTest::oneHung, x -> x.hang(12, 0), -3);
        twins.refused("hang(38, 1), was hung", RefusalsTest::oneHung, x -> x.hang(38, 1), -3);
        twins.refused("hang(25, 0), one is there", RefusalsTest::oneHung, x -> x.hang(25, 0), -3);
        Twins.Made old = () -> Check.older(oneHung(), 1);
        twins.refused("hang(25, 1) of last year", old, x -> x.hang(25, 1), -3);
        twins.refused("hang(42, 1) of last year, SMALL", old, x -> x.hang(42, 1), -2);
        twins.range("hang(25, v)", () -> freeOne(), 0, 5, (x, v) -> x.hang(12, v), -1, -1);
    }

    private static GrassBridge freeOne() {
        GrassBridge x = Check.hung(0, 1);
        Check.great(x, 0);
        return x;
    }

    private static void cut() {
        check.sentence("15: -1; -3 none is there");
        for (int place : NO_PLACE) {
            twins.refused("cut(" + place + ")", RefusalsTest::inUse, x -> x.cut(place), -1);
        }
        for (int place = 0; place < 6; place++) {
            int at = place;
            if (at != 2) {
                twins.refused("cut(" + at + ")", RefusalsTest::inUse, x -> x.cut(at), -3);
            }
        }
        twins.range("cut(v) of six", () -> Check.hung(63, 1), 0, 5, GrassBridge::cut, -1, -1);
    }

    private static void tension() {
        check.sentence("16: -1; -3 no ROPE is there; -4; -6");
        for (int place : NO_PLACE) {
            twins.refused("tension(" + place + ", 5)", RefusalsTest::inUse, x -> x.tension(place, 5), -1);
            twins.refused("tension(" + place + ", -1)", RefusalsTest::inUse, x -> x.tension(place, -1), -1);
            twins.refused("tension(" + place + ", 100)", RefusalsTest::inUse, x -> x.tension(place, 100), -1);
        }
        for (int place = 0; place < 6; place++) {
            int at = place;
            if (at != 2) {
                twins.refused("tension(" + at + ", 5)", RefusalsTest::inUse, x -> x.tension(at, 5), -3);
                twins.refused("tension(" + at + ", -1)", RefusalsTest::inUse, x -> x.tension(at, -1), -3);
                twins.refused("tension(" + at + ", 100)", RefusalsTest::inUse, x -> x.tension(at, 100), -3);
            }
        }
        twins.range("tension(2, v)", RefusalsTest::inUse, 0, 99, (x, v) -> x.tension(2, v), -4, -6);
        twins.range("tension(v, 7) of six", () -> Check.hung(63, 1), 0, 5, (x, v) -> x.tension(v, 7), -1, -1);
    }

    private static void strength() {
        check.sentence("17: -1");
        twins.range("strength(v)", RefusalsTest::inUse, 0, 5, GrassBridge::strength, -1, -1);
    }

    private static void loads() {
        check.sentence("19, 21: -4; -6");
        Twins.Made[] states = {RefusalsTest::inUse, () -> Check.hung(63, 1)};
        for (Twins.Made state : states) {
            twins.range("load(v)", state, 0, 2000, GrassBridge::load, -4, -6);
            twins.range("till(v)", state, 0, 2000, GrassBridge::till, -4, -6);
        }
    }

    private static GrassBridge atWeek(int week) {
        GrassBridge x = Check.hung(63, 1);
        if (week > 0) {
            x.weeks(week);
        }
        return x;
    }

    private static void weeks() {
        check.sentence("20: -4 below 1; -6 behind 52 in all");
        twins.range("weeks(v) at 0", () -> atWeek(0), 1, 52, GrassBridge::weeks, -4, -6);
        twins.range("weeks(v) at 1", () -> atWeek(1), 1, 51, GrassBridge::weeks, -4, -6);
        twins.range("weeks(v) at 51", () -> atWeek(51), 1, 1, GrassBridge::weeks, -4, -6);
        twins.refused("weeks(0) at 52", () -> atWeek(52), x -> x.weeks(0), -4);
        twins.refused("weeks(1) at 52", () -> atWeek(52), x -> x.weeks(1), -6);
        twins.refused("weeks(2147483647) at 52", () -> atWeek(52), x -> x.weeks(Integer.MAX_VALUE), -6);
    }

    /** One rope of soundness 1 broke. */
    private static GrassBridge oneBroke() {
        GrassBridge x = Check.hung(1, 1, 1);
        x.weeks(6);
        return x;
    }

    private static void broken() {
        check.sentence("22: -9 there is none such. -2");
        for (int what : OTHER_WHAT) {
            twins.refused("broken(0, " + what + ")", RefusalsTest::oneBroke, x -> x.broken(0, what), -2);
            twins.refused("broken(1, " + what + ")", RefusalsTest::oneBroke, x -> x.broken(1, what), -2);
            twins.refused("broken(-1, " + what + ")", RefusalsTest::inUse, x -> x.broken(-1, what), -2);
        }
        int[] none = {-1, 1, 39, 40, 41, Integer.MIN_VALUE, Integer.MAX_VALUE};
        for (int i : none) {
            for (int what = 0; what < 3; what++) {
                int of = what;
                twins.taken("broken(" + i + ", " + of + ")", RefusalsTest::oneBroke, x -> x.broken(i, of));
                check.due("broken(" + i + ", " + of + ")", oneBroke().broken(i, of), -9);
            }
        }
    }

    private static void blame() {
        check.sentence("23: -1");
        int[] none = {-1, 1, 39, 40, Integer.MIN_VALUE, Integer.MAX_VALUE};
        for (int v : none) {
            twins.refused("blame(" + v + ", 0)", RefusalsTest::oneBroke, x -> x.blame(v, 0), -1);
            twins.refused("blame(0, " + v + ")", RefusalsTest::oneBroke, x -> x.blame(0, v), -1);
            twins.refused("blame(" + v + ", " + v + ")", RefusalsTest::oneBroke, x -> x.blame(v, v), -1);
        }
        twins.refused("blame(0, 0), none broke", RefusalsTest::inUse, x -> x.blame(0, 0), -1);
        check.due("blame(0, 0)", oneBroke().blame(0, 0), 27);
    }

    private static void strands() {
        check.sentence("24: -1");
        int[] none = {-1, 25, 200, Integer.MIN_VALUE, Integer.MAX_VALUE};
        for (int v : none) {
            twins.refused("strands(" + v + ", 0)", RefusalsTest::laid, x -> x.strands(v, 0), -1);
            twins.refused("strands(0, " + v + ")", RefusalsTest::laid, x -> x.strands(0, v), -1);
        }
        twins.refused("strands(0, 1) of one house", RefusalsTest::laid, x -> x.strands(0, 1), -1);
        twins.refused("strands(0, 0), no rope", () -> Check.houses(1), x -> x.strands(0, 0), -1);
        twins.taken("strands(24, 0)", RefusalsTest::laid, x -> x.strands(24, 0));
    }

    private static void step() {
        check.sentence("25: -2; -1 PLACE, AFTER others; -4; -6 (12, too)");
        Twins.Made two = RefusalsTest::inUse;
        for (int kind : OTHER_WHAT) {
            twins.refused("step(" + kind + ", 0, 1, 1, 0)", two, x -> x.step(kind, 0, 1, 1, 0), -2);
            twins.refused("step(" + kind + ", 6, 1, 1, 0)", two, x -> x.step(kind, 6, 1, 1, 0), -2);
            twins.refused("step(" + kind + ", 0, 1, 1, 4)", two, x -> x.step(kind, 0, 1, 1, 4), -2);
            twins.refused("step(" + kind + ", 0, 0, 1, 0)", two, x -> x.step(kind, 0, 0, 1, 0), -2);
            twins.refused("step(" + kind + ", 0, 1, 61, 0)", two, x -> x.step(kind, 0, 1, 61, 0), -2);
        }
        for (int kind = 0; kind < 3; kind++) {
            int of = kind;
            String call = "step(" + of;
            int last = of == 2 ? 599 : 5;
            twins.range(call + ", v, 1, 1, 0)", two, 0, last, (x, v) -> x.step(of, v, 1, 1, 0), -1, -1);
            int[] noPlace = {-1, last + 1, Integer.MIN_VALUE, Integer.MAX_VALUE};
            for (int v : noPlace) {
                twins.refused(call + ", " + v + ", 0, 1, 0)", two, x -> x.step(of, v, 0, 1, 0), -1);
                twins.refused(call + ", " + v + ", 1, 61, 0)", two, x -> x.step(of, v, 1, 61, 0), -1);
            }
            twins.range(call + ", 0, 1, 1, v)", two, 0, 3, (x, v) -> x.step(of, 0, 1, 1, v), -1, -1);
            twins.range(call + ", 0, v, 1, 0)", two, 1, 9, (x, v) -> x.step(of, 0, v, 1, 0), -4, -6);
            twins.range(call + ", 0, 1, v, 0)", two, 1, 60, (x, v) -> x.step(of, 0, 1, v, 0), -4, -6);
            twins.refused(call + ", 0, 0, 1, 4)", two, x -> x.step(of, 0, 0, 1, 4), -1);
            twins.refused(call + ", 0, 1, 61, -1)", two, x -> x.step(of, 0, 1, 61, -1), -1);
            twins.refused(call + ", 0, 0, 61, 0)", two, x -> x.step(of, 0, 0, 61, 0), -4);
            twins.refused(call + ", 0, 10, 0, 0)", two, x -> x.step(of, 0, 10, 0, 0), -4);
            twins.refused(call + ", 0, 10, 61, 0)", two, x -> x.step(of, 0, 10, 61, 0), -6);
        }
    }

    private static GrassBridge told(int steps) {
        GrassBridge x = Check.houses(1);
        for (int i = 0; i < steps; i++) {
            x.step(0, i % 6, 1, 1, 0);
        }
        return x;
    }

    private static void stepBehindTwelve() {
        twins.taken("step 11", () -> told(11), x -> x.step(1, 5, 9, 60, 2047));
        twins.refused("step 12", () -> told(12), x -> x.step(0, 0, 1, 1, 0), -6);
        twins.refused("step 12 of days 10", () -> told(12), x -> x.step(0, 0, 10, 1, 0), -6);
        twins.refused("step 12 of no days", () -> told(12), x -> x.step(0, 0, 0, 1, 0), -4);
        twins.refused("step 12 of no hands", () -> told(12), x -> x.step(0, 0, 1, 0, 0), -4);
        twins.refused("step 12 at 6", () -> told(12), x -> x.step(0, 6, 1, 1, 0), -1);
        twins.refused("step 12 behind itself", () -> told(12), x -> x.step(0, 0, 1, 1, 4096), -1);
        twins.refused("step 12 behind all", () -> told(12), x -> x.step(0, 0, 1, 1, 4095), -6);
        twins.refused("step 12 of kind 3", () -> told(12), x -> x.step(3, 0, 1, 1, 0), -2);
    }

    private static void plans() {
        check.sentence("27, 28: -6 more than 8 STEPS");
        int[] ks = {0, 8, 9, -1, Integer.MIN_VALUE, Integer.MAX_VALUE};
        for (int steps = 9; steps <= 12; steps++) {
            int many = steps;
            twins.refused("plan() of " + many, () -> told(many), GrassBridge::plan, -6);
            for (int k : ks) {
                twins.refused("planAt(" + k + ") of " + many, () -> told(many), x -> x.planAt(k), -6);
            }
        }
        twins.taken("plan() of 8", () -> told(8), GrassBridge::plan);
        for (int k : ks) {
            twins.taken("planAt(" + k + ") of 8", () -> told(8), x -> x.planAt(k));
            check.due("planAt(" + k + ") of 8, no plan", told(8).planAt(k), -9);
        }
    }

    /** So many people, the first born in 10, the others of one without parent. */
    private static GrassBridge folk(int people) {
        GrassBridge x = new GrassBridge();
        for (int i = 0; i < people; i++) {
            x.person(-1, i == 0 ? 10 : -40);
        }
        return x;
    }

    private static void person() {
        check.sentence("29: -1 PARENT (-1: none); -4; -6 (30, too); -3 born ahead of the PARENT");
        int[] none = {-2, 2, 30, Integer.MIN_VALUE, Integer.MAX_VALUE};
        for (int parent : none) {
            twins.refused("person(" + parent + ", 20)", () -> folk(2), x -> x.person(parent, 20), -1);
            twins.refused("person(" + parent + ", -61)", () -> folk(2), x -> x.person(parent, -61), -1);
            twins.refused("person(" + parent + ", 61)", () -> folk(2), x -> x.person(parent, 61), -1);
        }
        twins.range("person(-1, v)", () -> folk(2), -60, 60, (x, v) -> x.person(-1, v), -4, -6);
        twins.taken("person(0, 10)", () -> folk(2), x -> x.person(0, 10));
        twins.refused("person(0, 9)", () -> folk(2), x -> x.person(0, 9), -3);
        twins.refused("person(0, -60)", () -> folk(2), x -> x.person(0, -60), -3);
        twins.refused("person(0, -61)", () -> folk(2), x -> x.person(0, -61), -4);
        twins.taken("person 29", () -> folk(29), x -> x.person(0, 10));
        twins.refused("person 30", () -> folk(30), x -> x.person(-1, 0), -6);
        twins.refused("person 30 of nobody", () -> folk(30), x -> x.person(30, 0), -1);
        twins.refused("person 30 too early", () -> folk(30), x -> x.person(0, -61), -4);
        twins.refused("person 30 too late", () -> folk(30), x -> x.person(0, 61), -6);
        twins.refused("person 30 ahead of the parent", () -> folk(30), x -> x.person(0, 9), -6);
    }

    private static void alive() {
        check.sentence("30: -1");
        int[] none = {-1, 2, 29, 30, Integer.MIN_VALUE, Integer.MAX_VALUE};
        for (int person : none) {
            twins.refused("alive(" + person + ", true)", () -> folk(2), x -> x.alive(person, true), -1);
            twins.refused("alive(" + person + ", false)", () -> folk(2), x -> x.alive(person, false), -1);
        }
        twins.refused("alive(0, false), nobody", GrassBridge::new, x -> x.alive(0, false), -1);
        twins.taken("alive(29, false)", () -> folk(30), x -> x.alive(29, false));
    }

    private static void ropeOf() {
        check.sentence("32: -1; -2");
        int[] none = {-1, 25, 200, Integer.MIN_VALUE, Integer.MAX_VALUE};
        for (int rope : none) {
            twins.refused("ropeOf(" + rope + ", 0)", RefusalsTest::laid, x -> x.ropeOf(rope, 0), -1);
            twins.refused("ropeOf(" + rope + ", 5)", RefusalsTest::laid, x -> x.ropeOf(rope, 5), -1);
        }
        twins.range("ropeOf(24, v)", RefusalsTest::laid, 0, 4, (x, v) -> x.ropeOf(24, v), -2, -2);
        twins.refused("ropeOf(0, 0), no rope", GrassBridge::new, x -> x.ropeOf(0, 0), -1);
        twins.taken("ropeOf(199, 0)", () -> Check.ropes(200), x -> x.ropeOf(199, 0));
    }

    private static void count() {
        check.sentence("33: -9 for another what");
        int[] others = {-1, 8, 9, 10, 17, Integer.MIN_VALUE, Integer.MIN_VALUE + 1, Integer.MAX_VALUE};
        for (int what : others) {
            check.due("count(" + what + ")", inUse().count(what), -9);
            twins.taken("count(" + what + ")", RefusalsTest::inUse, x -> x.count(what));
        }
        GrassBridge x = new GrassBridge();
        int[] told = {x.rainOf(52), x.brought(0, 3), x.cut(0), x.ask(-1), x.ask(10001)};
        int[] numbers = {-1, -2, -3, -4, -6};
        for (int i = 0; i < told.length; i++) {
            check.due("one of each", told[i], numbers[i]);
            check.due("count(" + (10 - numbers[i]) + ")", x.count(10 - numbers[i]), 1);
        }
        check.due("count(15), no refusal is -5", x.count(15), 0);
        for (int i = 0; i < 200; i++) {
            x.weeks(53);
        }
        check.due("count(16) of 201", x.count(16), 201);
    }
}
