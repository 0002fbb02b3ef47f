/** The edges of YEARS, WEEKS, RAIN, WET and CLOSING, a method for each sentence that names one. */
public final class YearEdgesTest {
    private static final Check check = new Check();

    public static void main(String[] args) {
        newObject();
        years();
        weeks();
        weeksBehindFiftyTwo();
        rainAtFirst();
        rainTaken();
        quartersEdges();
        greatestOfThoseTold();
        fiveWithoutOne();
        missingAgain();
        rainOfEachYear();
        wet();
        wetOfMissing();
        closing();
        closingEarly();
        check.end();
    }

    private static void newObject() {
        check.sentence("1: YEAR 0, WEEK 0; nothing");
        GrassBridge x = new GrassBridge();
        for (int what = 0; what <= 7; what++) {
            check.due("count(" + what + ")", x.count(what), 0);
        }
        for (int what = 11; what <= 16; what++) {
            check.due("count(" + what + ")", x.count(what), 0);
        }
        for (int place = 0; place < 6; place++) {
            check.due("strength(" + place + ")", x.strength(place), 0);
        }
        for (int village = -1; village < 4; village++) {
            for (int what = 0; what < 3; what++) {
                check.due("brought(" + village + ", " + what + ")", x.brought(village, what), 0);
            }
        }
        check.due("bears()", x.bears(), 0);
        check.due("load(0), no hand hung", x.load(0), 0);
        check.due("till(0)", x.till(0), 0);
        check.due("broken(0, 0)", x.broken(0, 0), -9);
        check.due("master()", x.master(), -9);
        check.due("plan()", x.plan(), 0);
        check.due("planAt(0)", x.planAt(0), -9);
        check.due("clear()", x.clear(), 0);
        check.due("ask(0)", x.ask(0), 0);
        check.due("weeks(52)", x.weeks(52), 52);
        check.due("close()", x.close(), 1);
    }

    private static void years() {
        check.sentence("Terms: YEARS go on from 0 (60 at most)");
        GrassBridge x = new GrassBridge();
        for (int year = 0; year < 60; year++) {
            check.due("count(0)", x.count(0), year);
            check.due("close()", x.close(), year + 1);
        }
        check.due("close() of 60", x.close(), -6);
        check.due("close() of 60, again", x.close(), -6);
        check.due("count(0)", x.count(0), 60);
        check.due("weeks(52) of 60", x.weeks(52), 52);
        check.due("close() of 60, all weeks passed", x.close(), -6);
        check.due("count(1)", x.count(1), 52);
    }

    private static void weeks() {
        check.sentence("Terms: WEEKS from 0 to 51");
        GrassBridge x = new GrassBridge();
        for (int week = 0; week < 52; week++) {
            check.due("count(1)", x.count(1), week);
            check.due("rain(" + week + ", 1)", x.rain(week, 1), -1);
            check.due("rainOf(" + week + ")", x.rainOf(week), 1);
            check.due("weeks(1)", x.weeks(1), week + 1);
        }
        check.due("count(1)", x.count(1), 52);
        check.due("rain(52, 1) in WEEK 52", x.rain(52, 1), 1000000001);
        check.due("rainOf(52) in WEEK 52", x.rainOf(52), -1);
    }

    private static void weeksBehindFiftyTwo() {
        check.sentence("20: -6 behind 52 in all (WEEK 52: only closing is left)");
        for (int week = 1; week < 52; week++) {
            GrassBridge x = new GrassBridge();
            check.due("weeks(" + week + ")", x.weeks(week), week);
            check.due("weeks to 53", x.weeks(53 - week), -6);
            check.due("count(1)", x.count(1), week);
            check.due("weeks to 52", x.weeks(52 - week), 52);
            check.due("weeks(1) in WEEK 52", x.weeks(1), -6);
            check.due("close()", x.close(), 1);
            check.due("weeks(52) of the next YEAR", x.weeks(52), 52);
        }
    }

    private static void rainAtFirst() {
        check.sentence("Terms: RAIN: at first missing");
        GrassBridge x = new GrassBridge();
        for (int week = 0; week < 52; week++) {
            check.due("rain(" + week + ", -1)", x.rain(week, -1), -1);
        }
    }

    private static void rainTaken() {
        check.sentence("2: RAIN of a WEEK (0 .. 9, or missing, -1): what it was (-1)");
        GrassBridge x = new GrassBridge();
        int[] weeks = {0, 12, 13, 51};
        for (int week : weeks) {
            int was = -1;
            for (int v = 9; v >= -1; v--) {
                check.due("rain(" + week + ", " + v + ")", x.rain(week, v), was);
                was = v;
            }
            check.due("rain(" + week + ", 10)", x.rain(week, 10), 1000000006);
            check.due("rain(" + week + ", -2)", x.rain(week, -2), 1000000004);
            check.due("rain(" + week + ", -1)", x.rain(week, -1), -1);
        }
    }

    private static void quartersEdges() {
        check.sentence("Terms: the same quarter: WEEKS 13 q to 13 q and 12");
        for (int told = 0; told < 52; told++) {
            GrassBridge x = new GrassBridge();
            x.rain(told, 8);
            for (int week = 0; week < 52; week++) {
                int due = week / 13 == told / 13 ? 8 : 5;
                check.due("told " + told + ": rainOf(" + week + ")", x.rainOf(week), due);
            }
        }
    }

    private static void greatestOfThoseTold() {
        check.sentence("Terms: a missing one counts as the greatest of those told");
        GrassBridge x = new GrassBridge();
        x.rain(13, 0);
        check.due("rainOf(14) by 0", x.rainOf(14), 0);
        x.rain(25, 4);
        check.due("rainOf(14) by 0 and 4", x.rainOf(14), 4);
        x.rain(19, 2);
        check.due("rainOf(14) by 0, 2 and 4", x.rainOf(14), 4);
        x.rain(20, 9);
        check.due("rainOf(14) by 9, too", x.rainOf(14), 9);
        check.due("rainOf(13), told itself", x.rainOf(13), 0);
        check.due("rainOf(19), told itself", x.rainOf(19), 2);
    }

    private static void fiveWithoutOne() {
        check.sentence("Terms: 5 without one");
        GrassBridge x = new GrassBridge();
        for (int week = 0; week < 52; week++) {
            check.due("rainOf(" + week + ")", x.rainOf(week), 5);
        }
        x.rain(12, 0);
        check.due("rainOf(13), one told a quarter ahead", x.rainOf(13), 5);
        x.rain(26, 9);
        check.due("rainOf(25), one told a quarter behind", x.rainOf(25), 5);
    }

    private static void missingAgain() {
        check.sentence("2: RAIN of a WEEK (-1: missing)");
        GrassBridge x = new GrassBridge();
        x.rain(3, 9);
        x.rain(4, 2);
        x.rain(3, -1);
        check.due("rainOf(3), the greatest is gone", x.rainOf(3), 2);
        x.rain(4, -1);
        check.due("rainOf(3), none is left", x.rainOf(3), 5);
    }

    private static void rainOfEachYear() {
        check.sentence("Terms: each YEAR begins with all missing");
        GrassBridge x = new GrassBridge();
        for (int week = 0; week < 52; week++) {
            x.rain(week, week % 10);
        }
        x.close();
        for (int week = 0; week < 52; week++) {
            check.due("rainOf(" + week + ")", x.rainOf(week), 5);
        }
        for (int week = 0; week < 52; week++) {
            check.due("rain(" + week + ", 3)", x.rain(week, 3), -1);
        }
    }

    /** Strength 730 less wet by 3: three weeks of one rain make a whole number of it. */
    private static void wet() {
        check.sentence("III: WET of a WEEK: its RAIN as it counted when it passed, twice that if it is 7 or more");
        int[] wets = {0, 1, 2, 3, 4, 5, 6, 14, 16, 18};
        for (int rain = 0; rain < 10; rain++) {
            GrassBridge x = Check.hung(1, 1, 9);
            for (int week = 0; week < 3; week++) {
                x.rain(week, rain);
            }
            x.weeks(3);
            check.due("strength(0), rain " + rain, x.strength(0), 730 - wets[rain]);
            x.rain(0, 9);
            x.rain(1, 0);
            x.rain(2, -1);
            check.due("strength(0), told anew behind", x.strength(0), 730 - wets[rain]);
        }
    }

    private static void wetOfMissing() {
        check.sentence("III: WET of a WEEK: its RAIN as it counted when it passed");
        GrassBridge x = Check.hung(1, 1, 9);
        x.rain(12, 6);
        x.weeks(3);
        check.due("three missing count as 6", x.strength(0), 730 - 6);
        x.rain(12, 7);
        x.weeks(3);
        check.due("three missing count as 7, which is 14", x.strength(0), 730 - 20);
        x.rain(12, -1);
        x.weeks(3);
        check.due("three missing count as 5", x.strength(0), 730 - 25);
    }

    private static void closing() {
        check.sentence("Terms: CLOSING: YEAR is 1 more, nobody has brought, WEEK is 0, RAIN is missing");
        GrassBridge x = Check.hung(0b111111, 1, 9);
        x.rain(0, 9);
        x.weeks(52);
        x.tension(3, 1);
        int strength = x.strength(5);
        check.due("close()", x.close(), 1);
        check.due("count(0)", x.count(0), 1);
        check.due("count(1)", x.count(1), 0);
        check.due("brought(-1, 2)", x.brought(-1, 2), 0);
        check.due("rain(0, -1)", x.rain(0, -1), -1);
        check.due("small(0, 0, 0), nothing brought", x.small(0, 0, 0), -3);
        check.sentence("Terms: the bridge stays as it is, a YEAR older");
        for (int place = 0; place < 6; place++) {
            check.due("strength(" + place + ")", x.strength(place), strength - 40);
            check.due("ropeOf(.., 3)", x.ropeOf(12 + 13 * place, 3), place);
        }
        check.due("tension(3, 50)", x.tension(3, 50), 1);
    }

    private static void closingEarly() {
        check.sentence("11: a YEAR is closed: WEEKS that did not pass bring no WET");
        GrassBridge x = Check.hung(1, 1, 9);
        x.close();
        check.due("strength(0), closed in WEEK 0", x.strength(0), 690);
        x.weeks(51);
        int before = x.strength(0);
        x.close();
        check.due("strength(0), closed in WEEK 51", x.strength(0), before - 40);
        check.due("count(5)", x.count(5), 0);
    }
}
