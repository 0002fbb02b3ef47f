/** Promises 1, 2, 3, 11, 20 and 33: a new object, rain, weeks, years and what is counted. */
public final class YearTest {
    private static final Check check = new Check();

    public static void main(String[] args) {
        newObject();
        rain();
        quarters();
        weeksAndYears();
        refusals();
        check.end();
    }

    private static void newObject() {
        GrassBridge x = new GrassBridge();
        int[] whats = {0, 1, 2, 3, 4, 5, 6, 7, 11, 12, 13, 14, 15, 16};
        for (int what : whats) {
            check.due("new: count(" + what + ")", x.count(what), 0);
        }
        int[] others = {-1, 8, 9, 10, 17, Integer.MIN_VALUE, Integer.MAX_VALUE};
        for (int what : others) {
            check.due("new: count(" + what + ")", x.count(what), -9);
        }
        for (int week = 0; week < 52; week++) {
            check.due("new: rainOf(" + week + ")", x.rainOf(week), 5);
        }
        for (int place = 0; place < 6; place++) {
            check.due("new: strength(" + place + ")", x.strength(place), 0);
        }
        check.due("new: bears()", x.bears(), 0);
        check.due("new: load(0), no hands", x.load(0), 0);
        check.due("new: till(0)", x.till(0), 0);
        check.due("new: brought(-1, 1)", x.brought(-1, 1), 0);
        check.due("new: plan()", x.plan(), 0);
        check.due("new: master()", x.master(), -9);
        check.due("new: broken(0, 0)", x.broken(0, 0), -9);
        check.due("new: ask(7)", x.ask(7), 0);
        check.due("new: clear()", x.clear(), 0);
    }

    private static void rain() {
        GrassBridge x = new GrassBridge();
        check.due("rain(0, 0)", x.rain(0, 0), -1);
        check.due("rain(0, 9)", x.rain(0, 9), 0);
        check.due("rain(0, -1)", x.rain(0, -1), 9);
        check.due("rain(0, 4)", x.rain(0, 4), -1);
        check.due("rain(51, 3)", x.rain(51, 3), -1);
        check.due("rain(52, 3)", x.rain(52, 3), 1000000001);
        check.due("rain(-1, 99)", x.rain(-1, 99), 1000000001);
        check.due("rain(1, -2)", x.rain(1, -2), 1000000004);
        check.due("rain(1, 10)", x.rain(1, 10), 1000000006);
        check.due("rainOf(52)", x.rainOf(52), -1);
        check.due("rainOf(-1)", x.rainOf(-1), -1);
        check.due("rainOf(0)", x.rainOf(0), 4);
        check.due("rainOf(51)", x.rainOf(51), 3);
        check.due("count(11)", x.count(11), 4);
        check.due("count(14)", x.count(14), 1);
        check.due("count(16)", x.count(16), 1);
        // Rain of a week that has passed may be told, too.
        x.weeks(20);
        check.due("rain(0, 6) behind it", x.rain(0, 6), 4);
        check.due("rainOf(1) behind it", x.rainOf(1), 6);
    }

    private static void quarters() {
        for (int q = 0; q < 4; q++) {
            GrassBridge x = new GrassBridge();
            x.rain(13 * q + 12, 2);
            x.rain(13 * q, 1);
            for (int week = 0; week < 52; week++) {
                int told = week == 13 * q ? 1 : week / 13 == q ? 2 : 5;
                check.due("quarter " + q + ": rainOf(" + week + ")", x.rainOf(week), told);
            }
        }
        GrassBridge x = new GrassBridge();
        x.rain(30, 0);
        check.due("rainOf(29), only 0 told", x.rainOf(29), 0);
    }

    private static void weeksAndYears() {
        GrassBridge x = new GrassBridge();
        check.due("weeks(0)", x.weeks(0), -4);
        check.due("weeks(-2147483648)", x.weeks(Integer.MIN_VALUE), -4);
        check.due("weeks(53)", x.weeks(53), -6);
        check.due("weeks(2147483647)", x.weeks(Integer.MAX_VALUE), -6);
        check.due("count(1)", x.count(1), 0);
        check.due("weeks(1)", x.weeks(1), 1);
        check.due("weeks(52)", x.weeks(52), -6);
        check.due("weeks(51)", x.weeks(51), 52);
        check.due("count(1)", x.count(1), 52);
        check.due("weeks(1) at 52", x.weeks(1), -6);
        check.due("weeks(0) at 52", x.weeks(0), -4);
        check.due("rain(7, 9)", x.rain(7, 9), -1);
        check.due("close()", x.close(), 1);
        check.due("count(0)", x.count(0), 1);
        check.due("count(1)", x.count(1), 0);
        check.due("rain is missing again", x.rain(7, -1), -1);
        check.due("rainOf(8)", x.rainOf(8), 5);
        x.weeks(3);
        for (int year = 2; year <= 60; year++) {
            check.due("close() to " + year, x.close(), year);
        }
        check.due("close() at 60", x.close(), -6);
        check.due("count(0)", x.count(0), 60);
        check.due("weeks(5) of 60", x.weeks(5), 5);
        check.due("close() at 60", x.close(), -6);
        check.due("count(1) stays", x.count(1), 5);
    }

    private static void refusals() {
        GrassBridge x = new GrassBridge();
        x.owed(0);
        x.share(0);
        x.broken(0, -1);
        x.cut(0);
        x.ask(-1);
        x.ask(10001);
        x.broken(0, 0);
        x.count(99);
        x.master();
        x.planAt(0);
        x.till(5);
        check.due("count(11)", x.count(11), 2);
        check.due("count(12)", x.count(12), 1);
        check.due("count(13)", x.count(13), 1);
        check.due("count(14)", x.count(14), 1);
        check.due("count(15)", x.count(15), 0);
        check.due("count(16)", x.count(16), 1);
    }
}
