/** The edges of HOUSES, HANDS, BRINGING, ASKED, shares and OWED, a method for each sentence. */
public final class HouseEdgesTest {
    private static final Check check = new Check();

    public static void main(String[] args) {
        houses();
        villages();
        hands();
        atFirst();
        hereAndAway();
        fathoms();
        doubt();
        notBelowNone();
        toldAnew();
        cordsLaid();
        awayBehindBringing();
        broughtOfNone();
        asked();
        sharesCut();
        noneHere();
        leftOver();
        leftOverByOwed();
        leftOverOnceAtMost();
        awayHasNoShare();
        owedOfClosedYears();
        owedBelowNone();
        owedAtMost();
        check.end();
    }

    private static void houses() {
        check.sentence("Terms: HOUSES have numbers from 0 on (24 at most)");
        GrassBridge x = new GrassBridge();
        for (int i = 0; i < 24; i++) {
            check.due("count(2)", x.count(2), i);
            check.due("share(" + i + "), not yet told", x.share(i), -1);
            check.due("house(0, 9)", x.house(0, 9), i);
            check.due("share(" + i + ")", x.share(i), 0);
        }
        check.due("house(0, 9) of 24", x.house(0, 9), -6);
        check.due("share(24)", x.share(24), -1);
        check.due("count(2)", x.count(2), 24);
        check.due("count(4)", x.count(4), 216);
        x.close();
        check.due("house(0, 9) of 24, next YEAR", x.house(0, 9), -6);
    }

    private static void villages() {
        check.sentence("Terms: a VILLAGE (0 .. 3)");
        GrassBridge x = new GrassBridge();
        check.due("house(-1, 1)", x.house(-1, 1), -1);
        check.due("house(4, 1)", x.house(4, 1), -1);
        for (int village = 0; village < 4; village++) {
            check.due("house(" + village + ", 1)", x.house(village, 1), village);
            x.bring(village, 10 + village, 0);
        }
        for (int village = 0; village < 4; village++) {
            check.due("brought(" + village + ", 1)", x.brought(village, 1), 10 + village);
        }
        check.due("brought(-1, 1)", x.brought(-1, 1), 46);
        check.due("brought(-2, 1)", x.brought(-2, 1), -1);
        check.due("brought(4, 1)", x.brought(4, 1), -1);
    }

    private static void hands() {
        check.sentence("Terms: HANDS (1 .. 9)");
        GrassBridge x = new GrassBridge();
        check.due("house(0, 0)", x.house(0, 0), -4);
        check.due("house(0, 10)", x.house(0, 10), -6);
        check.due("house(0, 1)", x.house(0, 1), 0);
        check.due("house(0, 9)", x.house(0, 9), 1);
        check.due("count(4)", x.count(4), 10);
        check.due("set(0, 0, 9)", x.set(0, 0, 9), 1);
        check.due("set(1, 0, 1)", x.set(1, 0, 1), 9);
        check.due("set(1, 0, 0)", x.set(1, 0, 0), -4);
        check.due("set(1, 0, 10)", x.set(1, 0, 10), -6);
        check.due("count(4)", x.count(4), 10);
    }

    private static void atFirst() {
        check.sentence("4: A HOUSE, HERE; II: CARE 1 .. 9 of a HOUSE; 5 at first");
        GrassBridge x = new GrassBridge();
        x.house(0, 4);
        check.due("set(0, 0, 4)", x.set(0, 0, 4), 4);
        check.due("set(0, 1, 9)", x.set(0, 1, 9), 5);
        check.due("set(0, 1, 1)", x.set(0, 1, 1), 9);
        check.due("set(0, 1, 0)", x.set(0, 1, 0), -4);
        check.due("set(0, 1, 10)", x.set(0, 1, 10), -6);
        check.due("set(0, 1, 1)", x.set(0, 1, 1), 1);
        check.due("set(0, 2, 1)", x.set(0, 2, 1), 1);
        check.due("bring(0, 0, 0), none brought", x.bring(0, 0, 0), 0);
        check.due("owed(0)", x.owed(0), 0);
    }

    private static void hereAndAway() {
        check.sentence("5: 2 HERE (0, 1)");
        GrassBridge x = new GrassBridge();
        x.house(0, 4);
        x.house(0, 2);
        check.due("set(0, 2, -1)", x.set(0, 2, -1), -4);
        check.due("set(0, 2, 2)", x.set(0, 2, 2), -6);
        check.due("set(0, 2, 0)", x.set(0, 2, 0), 1);
        check.due("count(4)", x.count(4), 2);
        check.due("set(1, 2, 0)", x.set(1, 2, 0), 1);
        check.due("count(4), none HERE", x.count(4), 0);
        check.due("set(0, 2, 1)", x.set(0, 2, 1), 0);
        check.due("count(4)", x.count(4), 4);
        check.due("set(0, 2, 1)", x.set(0, 2, 1), 1);
    }

    private static void fathoms() {
        check.sentence("6: FATHOMS (0 .. 2000); II: CORDS of 10 each (what is left over is none)");
        GrassBridge x = Check.houses(1);
        int[] fathoms = {0, 1, 9, 10, 11, 19, 20, 1989, 1990, 1999, 2000};
        int[] cords = {0, 0, 0, 1, 1, 1, 2, 198, 199, 199, 200};
        for (int i = 0; i < fathoms.length; i++) {
            check.due("bring(0, " + fathoms[i] + ", 0)", x.bring(0, fathoms[i], 0), cords[i]);
            check.due("brought(0, 1)", x.brought(0, 1), fathoms[i]);
        }
        check.due("bring(0, 2001, 0)", x.bring(0, 2001, 0), -6);
        check.due("bring(0, -1, 0)", x.bring(0, -1, 0), -4);
        check.due("brought(0, 1)", x.brought(0, 1), 2000);
    }

    private static void doubt() {
        check.sentence("Terms: DOUBT (0 .. 20 fathoms)");
        GrassBridge x = Check.houses(1);
        check.due("bring(0, 100, 0)", x.bring(0, 100, 0), 10);
        check.due("brought(0, 0)", x.brought(0, 0), 100);
        check.due("brought(0, 2)", x.brought(0, 2), 100);
        check.due("bring(0, 100, 20): CORDS are of FATHOMS told", x.bring(0, 100, 20), 10);
        check.due("brought(0, 0)", x.brought(0, 0), 80);
        check.due("brought(0, 2)", x.brought(0, 2), 120);
        check.due("bring(0, 100, 21)", x.bring(0, 100, 21), -6);
        check.due("bring(0, 100, -1)", x.bring(0, 100, -1), -4);
        check.due("brought(0, 0)", x.brought(0, 0), 80);
    }

    private static void notBelowNone() {
        check.sentence("Terms: it may be as many less, or more (not below 0)");
        int[] fathoms = {0, 1, 19, 20, 21, 2000};
        int[] least = {0, 0, 0, 0, 1, 1980};
        for (int i = 0; i < fathoms.length; i++) {
            GrassBridge x = Check.houses(2);
            x.bring(0, fathoms[i], 20);
            check.due(fathoms[i] + ": brought(0, 0)", x.brought(0, 0), least[i]);
            check.due(fathoms[i] + ": brought(0, 2)", x.brought(0, 2), fathoms[i] + 20);
            x.bring(1, 50, 0);
            check.due("of each HOUSE alone", x.brought(-1, 0), least[i] + 50);
        }
    }

    private static void toldAnew() {
        check.sentence("Terms: a HOUSE brings once a YEAR (told again: anew)");
        GrassBridge x = Check.houses(1);
        x.bring(0, 2000, 20);
        check.due("bring(0, 30, 1)", x.bring(0, 30, 1), 3);
        check.due("brought(0, 0)", x.brought(0, 0), 29);
        check.due("brought(0, 1)", x.brought(0, 1), 30);
        check.due("brought(0, 2)", x.brought(0, 2), 31);
        check.due("small(0, 0, 0)", x.small(0, 0, 0), 0);
        check.due("small(0, 0, 0), none is left", x.small(0, 0, 0), -3);
    }

    private static void cordsLaid() {
        check.sentence("6: -3 CORDS of it are laid this YEAR");
        GrassBridge x = Check.houses(3);
        x.bring(0, 30, 0);
        x.bring(1, 20, 0);
        x.bring(2, 20, 0);
        x.small(0, 1, 1);
        check.due("bring(0, 30, 0), one CORD is laid", x.bring(0, 30, 0), -3);
        check.due("bring(1, 30, 0), two are laid", x.bring(1, 30, 0), -3);
        check.due("bring(2, 30, 0), none is laid", x.bring(2, 30, 0), 3);
        x.close();
        check.due("bring(0, 30, 0), laid last YEAR", x.bring(0, 30, 0), 3);
    }

    private static void awayBehindBringing() {
        check.sentence("6: -3 it is AWAY");
        GrassBridge x = Check.houses(2);
        x.bring(0, 30, 2);
        x.set(0, 2, 0);
        check.due("bring(0, 40, 0)", x.bring(0, 40, 0), -3);
        check.due("brought(0, 2): what it brought counts", x.brought(0, 2), 32);
        x.set(0, 2, 1);
        check.due("bring(0, 40, 0), HERE again", x.bring(0, 40, 0), 4);
    }

    private static void broughtOfNone() {
        check.sentence("7: FATHOMS of all HOUSES this YEAR");
        GrassBridge x = Check.houses(2);
        for (int what = 0; what < 3; what++) {
            check.due("brought(-1, " + what + "), none has brought", x.brought(-1, what), 0);
            check.due("brought(3, " + what + "), no HOUSE there", x.brought(3, what), 0);
        }
        GrassBridge full = Check.houses(24);
        for (int house = 0; house < 24; house++) {
            full.bring(house, 2000, 20);
        }
        check.due("brought(-1, 0) of 24", full.brought(-1, 0), 24 * 1980);
        check.due("brought(-1, 1) of 24", full.brought(-1, 1), 48000);
        check.due("brought(-1, 2) of 24", full.brought(-1, 2), 24 * 2020);
        check.due("brought(3, 2) of 24", full.brought(3, 2), 6 * 2020);
    }

    private static void asked() {
        check.sentence("Terms: ASKED (0 .. 10000; 0 at first)");
        GrassBridge x = Check.houses(1);
        check.due("ask(10000)", x.ask(10000), 0);
        check.due("share(0)", x.share(0), 10000);
        check.due("ask(10001)", x.ask(10001), -6);
        check.due("ask(-1)", x.ask(-1), -4);
        check.due("ask(0)", x.ask(0), 10000);
        check.due("share(0)", x.share(0), 0);
        check.due("ask(5)", x.ask(5), 0);
    }

    private static void shares(String when, GrassBridge x, int... want) {
        for (int i = 0; i < want.length; i++) {
            check.due(when + ": share(" + i + ")", x.share(i), want[i]);
        }
    }

    private static void sharesCut() {
        check.sentence("Terms: shares: ASKED times HANDS by all HANDS HERE, cut");
        GrassBridge x = new GrassBridge();
        x.house(0, 1);
        x.house(0, 9);
        x.ask(10000);
        shares("10000 by 10", x, 1000, 9000);
        x.ask(10);
        shares("10 by 10", x, 1, 9);
        x.ask(9);
        shares("9 by 10: 0.9 and 8.1", x, 1, 8);
        x.ask(1);
        shares("1 by 10: 0.1 and 0.9", x, 1, 0);
        GrassBridge full = new GrassBridge();
        for (int house = 0; house < 24; house++) {
            full.house(0, 9);
        }
        full.ask(10000);
        for (int house = 0; house < 24; house++) {
            check.due("10000 by 24: share(" + house + ")", full.share(house), house < 16 ? 417 : 416);
        }
    }

    private static void noneHere() {
        check.sentence("Terms: each HOUSE that is HERE owes its share; 9: 0 if AWAY");
        GrassBridge x = Check.houses(2);
        x.ask(100);
        x.set(0, 2, 0);
        shares("one AWAY", x, 0, 100);
        x.set(1, 2, 0);
        shares("none HERE", x, 0, 0);
        x.close();
        check.due("owed(0)", x.owed(0), 0);
        check.due("owed(1)", x.owed(1), 0);
    }

    private static void leftOver() {
        check.sentence("Terms: what is left over goes one by one: then those of the lesser number");
        for (int asked = 0; asked <= 8; asked++) {
            GrassBridge x = Check.houses(4);
            x.ask(asked);
            for (int house = 0; house < 4; house++) {
                check.due(asked + " by 4: share(" + house + ")", x.share(house), (asked + 3 - house) / 4);
            }
        }
    }

    private static void leftOverByOwed() {
        check.sentence("Terms: first those that have OWED most so far");
        GrassBridge x = Check.houses(4);
        int[] brought = {3, 0, 3, 1};
        for (int house = 0; house < 4; house++) {
            x.bring(house, brought[house], 0);
        }
        x.close();
        // OWED is -3, 0, -3, -1
        x.ask(1);
        shares("1 by 4", x, 0, 1, 0, 0);
        x.ask(2);
        shares("2 by 4", x, 0, 1, 0, 1);
        x.ask(3);
        shares("3 by 4, 0 and 2 alike", x, 1, 1, 0, 1);
        x.set(1, 2, 0);
        x.ask(1);
        shares("1 by 3, the one that owes most is AWAY", x, 0, 0, 0, 1);
        x.bring(0, 2000, 0);
        shares("what is brought this YEAR is not yet OWED", x, 0, 0, 0, 1);
    }

    private static void leftOverOnceAtMost() {
        check.sentence("Terms: each at most once");
        GrassBridge x = new GrassBridge();
        int[] hands = {9, 1, 1, 1, 1};
        for (int house = 0; house < 5; house++) {
            x.house(0, hands[house]);
        }
        x.ask(100);
        x.bring(1, 100, 0);
        // 69.2 and four times 7.7: three are left over.
        shares("the lesser numbers", x, 70, 8, 8, 7, 7);
        x.close();
        // OWED is 70, -92, 8, 7, 7
        x.ask(12);
        shares("8.3 and four times 0.9: 4 are left over", x, 9, 0, 1, 1, 1);
    }

    private static void awayHasNoShare() {
        check.sentence("Terms: one by one to HOUSES HERE");
        GrassBridge x = Check.houses(3);
        x.set(0, 2, 0);
        x.ask(3);
        shares("the first is AWAY", x, 0, 2, 1);
        x.close();
        check.due("owed(0)", x.owed(0), 0);
        check.due("owed(1)", x.owed(1), 2);
        check.due("owed(2)", x.owed(2), 1);
    }

    private static void owedOfClosedYears() {
        check.sentence("10: OWED of a HOUSE, of YEARS that are closed; Terms: 0 at first");
        GrassBridge x = Check.houses(1);
        x.ask(50);
        x.bring(0, 20, 20);
        check.due("owed(0), this YEAR", x.owed(0), 0);
        x.close();
        check.due("owed(0), DOUBT counts not", x.owed(0), 30);
        check.due("house(1, 1)", x.house(1, 1), 1);
        check.due("owed(1) of a new HOUSE", x.owed(1), 0);
        x.set(0, 2, 0);
        x.close();
        check.due("owed(0), AWAY", x.owed(0), 30);
        check.due("owed(1)", x.owed(1), 50);
    }

    private static void owedBelowNone() {
        check.sentence("Terms: OWED (may be below 0)");
        GrassBridge x = Check.houses(1);
        for (int year = 1; year <= 60; year++) {
            x.bring(0, year == 1 ? 1 : 2000, 0);
            x.close();
            check.due("owed(0)", x.owed(0), -1 - 2000 * (year - 1));
        }
        check.due("owed(1), no such HOUSE", x.owed(1), 1000000001);
    }

    private static void owedAtMost() {
        check.sentence("Terms: OWED: over the YEARS: its share is added");
        GrassBridge x = Check.houses(1);
        x.ask(10000);
        Check.older(x, 60);
        check.due("owed(0), 60 YEARS", x.owed(0), 600000);
        check.due("close() of 60", x.close(), -6);
        check.due("owed(0)", x.owed(0), 600000);
    }
}
