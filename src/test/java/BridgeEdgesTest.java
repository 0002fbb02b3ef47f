/** The edges of PLACES, TENSION, STRENGTH, LOAD, BREAK and BLAME, a method for each sentence. */
public final class BridgeEdgesTest {
    private static final Check check = new Check();

    public static void main(String[] args) {
        places();
        emptyPlace();
        tensions();
        tensionOfEachHanging();
        wetCut();
        wetSinceHung();
        yearsSinceHung();
        strengthNotBelowNone();
        floorPlaceEmpty();
        bearsByLeast();
        tensionOfTheFloor();
        bearsNoneAtLeast();
        loads();
        handsHung();
        handsOfStrength();
        tillNow();
        tillOneWeek();
        tillTheEnd();
        tillInWeek52();
        tillByHands();
        tillByRainThatCounts();
        breaksAtNone();
        breaksAsWeekEnds();
        brokenInEachWeek();
        brokenByPlaces();
        allThatCanBreak();
        noneBroken();
        blameOfAll();
        blameOfLeast();
        blameAsCareWas();
        check.end();
    }

    private static void places() {
        check.sentence("III: PLACES 0 to 5: 0 .. 3 the floor, 4 and 5 hands");
        GrassBridge x = Check.hung(0, 1);
        for (int place = 0; place < 6; place++) {
            int great = Check.great(x, 0);
            check.due("hang(.., -1)", x.hang(great, -1), -1);
            check.due("hang(.., 6)", x.hang(great, 6), -1);
            check.due("hang(.., " + place + ")", x.hang(great, place), 1);
            check.due("strength(" + place + ")", x.strength(place), 370);
            check.due("bears()", x.bears(), place < 3 ? 0 : 1480);
            check.due("load(0)", x.load(0), place < 5 ? 0 : 1);
        }
        check.due("hang, all are hung", x.hang(Check.great(x, 0), 0), -3);
        for (int place = 5; place >= 0; place--) {
            check.due("cut(" + place + ")", x.cut(place), 12 + 13 * place);
            check.due("cut(" + place + ") again", x.cut(place), -3);
        }
    }

    private static void emptyPlace() {
        check.sentence("17: STRENGTH of the ROPE at a PLACE (0 without one)");
        GrassBridge x = Check.hung(0b000010, 1);
        check.due("strength(1)", x.strength(1), 370);
        check.due("strength(0)", x.strength(0), 0);
        check.due("strength(2)", x.strength(2), 0);
        x.cut(1);
        check.due("strength(1), cut", x.strength(1), 0);
    }

    private static void tensions() {
        check.sentence("III: TENSION 0 .. 99 (50 at first)");
        GrassBridge x = Check.hung(0b111111, 1);
        for (int place = 0; place < 6; place++) {
            check.due("tension(" + place + ", 99)", x.tension(place, 99), 50);
            check.due("tension(" + place + ", 0)", x.tension(place, 0), 99);
            check.due("tension(" + place + ", -1)", x.tension(place, -1), -4);
            check.due("tension(" + place + ", 100)", x.tension(place, 100), -6);
            check.due("tension(" + place + ", 50)", x.tension(place, 50), 0);
        }
    }

    private static void tensionOfEachHanging() {
        check.sentence("III: Hung, each has TENSION (50 at first)");
        GrassBridge x = Check.hung(0b000001, 1);
        x.tension(0, 3);
        x.cut(0);
        check.due("tension(0, 7), none is there", x.tension(0, 7), -3);
        x.hang(Check.great(x, 0), 0);
        check.due("tension(0, 7), another one hung", x.tension(0, 7), 50);
    }

    private static void wetCut() {
        check.sentence("III: less (WET of all WEEKS that passed since it was hung) by 3, cut");
        GrassBridge x = Check.hung(0b000001, 1);
        x.rain(12, 1);
        for (int wet = 1; wet <= 12; wet++) {
            x.weeks(1);
            check.due("strength(0), WET " + wet, x.strength(0), 370 - wet / 3);
        }
    }

    private static void wetSinceHung() {
        check.sentence("III: WEEKS that passed since it was hung");
        GrassBridge x = Check.hung(0b000001, 1);
        x.weeks(1);
        x.hang(Check.great(x, 0), 1);
        x.weeks(1);
        check.due("strength(0), WET 10", x.strength(0), 367);
        check.due("strength(1), WET 5", x.strength(1), 369);
        x.cut(0);
        x.weeks(1);
        x.hang(Check.great(x, 0), 0);
        check.due("strength(0), no WET", x.strength(0), 370);
        check.due("strength(1), WET 10", x.strength(1), 367);
        x.weeks(1);
        check.due("strength(0), WET 5", x.strength(0), 369);
        check.due("strength(1), WET 15", x.strength(1), 365);
    }

    private static void yearsSinceHung() {
        check.sentence("III: less 40 for each YEAR that was closed since");
        GrassBridge x = Check.older(new GrassBridge(), 3);
        x.house(0, 1);
        x.bring(0, 500, 0);
        x.hang(Check.great(x, 0), 0);
        check.due("strength(0), hung in YEAR 3", x.strength(0), 370);
        for (int years = 1; years <= 9; years++) {
            x.close();
            check.due("strength(0), " + years + " YEARS", x.strength(0), 370 - 40 * years);
        }
        x.close();
        check.due("strength(0), 10 YEARS", x.strength(0), 0);
    }

    private static void strengthNotBelowNone() {
        check.sentence("III: STRENGTH: not below 0");
        GrassBridge x = Check.older(Check.hung(0b111111, 1, 9), 60);
        for (int place = 0; place < 6; place++) {
            check.due("strength(" + place + "), 730 less 2400", x.strength(place), 0);
        }
        check.due("bears()", x.bears(), 0);
    }

    private static void floorPlaceEmpty() {
        check.sentence("III: STRENGTH of the bridge: 0 if a PLACE is empty");
        for (int place = 0; place < 4; place++) {
            GrassBridge x = Check.hung(0b111111 & ~(1 << place), 1);
            check.due("bears(), " + place + " is empty", x.bears(), 0);
            check.due("load(1), " + place + " is empty", x.load(1), 0);
        }
        GrassBridge x = Check.hung(0b001111, 1);
        check.due("bears(), hands are of no matter", x.bears(), 1480);
    }

    private static void bearsByLeast() {
        check.sentence("III: 4 times the least STRENGTH of its four");
        for (int place = 0; place < 6; place++) {
            GrassBridge x = Check.hung(0b111111 & ~(1 << place), 1);
            x.set(0, 1, 1);
            x.hang(Check.great(x, 0), place);
            check.due("bears(), the worst at " + place, x.bears(), place < 4 ? 40 : 1480);
        }
    }

    private static void tensionOfTheFloor() {
        check.sentence("III: less the difference of the greatest and the least TENSION of these");
        for (int place = 0; place < 6; place++) {
            GrassBridge x = Check.hung(0b111111, 1);
            x.tension(place, 99);
            check.due("bears(), 99 at " + place, x.bears(), place < 4 ? 1480 - 49 : 1480);
            x.tension(place, 0);
            check.due("bears(), 0 at " + place, x.bears(), place < 4 ? 1480 - 50 : 1480);
            x.tension((place + 1) % 4, 99);
            check.due("bears(), 99 next to it", x.bears(), place < 4 ? 1480 - 99 : 1480 - 49);
        }
        GrassBridge even = Check.hung(0b111111, 1);
        for (int place = 0; place < 4; place++) {
            even.tension(place, 0);
        }
        check.due("bears(), all of 0", even.bears(), 1480);
        for (int place = 0; place < 4; place++) {
            even.tension(place, 99);
        }
        check.due("bears(), all of 99", even.bears(), 1480);
    }

    private static void bearsNoneAtLeast() {
        check.sentence("III: 0 at least");
        GrassBridge x = Check.hung(0b111111, 1, 1);
        x.tension(0, 89);
        check.due("bears(), 40 less 39", x.bears(), 1);
        x.tension(0, 90);
        check.due("bears(), 40 less 40", x.bears(), 0);
        x.tension(0, 91);
        check.due("bears(), 40 less 41", x.bears(), 0);
        x.tension(1, 0);
        check.due("bears(), 40 less 91", x.bears(), 0);
        check.due("load(0)", x.load(0), 1);
        check.due("load(1)", x.load(1), 0);
    }

    private static void loads() {
        check.sentence("III: LOAD (0 .. 2000) is let if it is that at most");
        GrassBridge x = Check.hung(0b111111, 1);
        check.due("load(1480)", x.load(1480), 1);
        check.due("load(1481)", x.load(1481), 0);
        check.due("load(0)", x.load(0), 1);
        check.due("load(2000)", x.load(2000), 0);
        check.due("load(-1)", x.load(-1), -4);
        check.due("load(2001)", x.load(2001), -6);
        x.cut(0);
        check.due("load(0), the floor bears 0", x.load(0), 1);
        check.due("load(1), the floor bears 0", x.load(1), 0);
    }

    private static void handsHung() {
        check.sentence("III: and both hands are hung");
        GrassBridge x = Check.hung(0b111111, 1);
        check.due("load(0)", x.load(0), 1);
        x.cut(4);
        check.due("load(0), 4 is cut", x.load(0), 0);
        x.hang(Check.great(x, 0), 4);
        check.due("load(0), hung anew", x.load(0), 1);
        GrassBridge other = Check.hung(0b111111, 1);
        other.cut(5);
        check.due("load(0), 5 is cut", other.load(0), 0);
        check.due("load(0), nothing is hung", new GrassBridge().load(0), 0);
    }

    private static void handsOfStrength() {
        check.sentence("III: hands with STRENGTH above 0");
        for (int hand = 4; hand < 6; hand++) {
            GrassBridge x = Check.hung(0b111111 & ~(1 << hand), 1, 9);
            x.set(0, 1, 1);
            x.hang(Check.great(x, 0), hand);
            x.weeks(5);
            x.rain(12, 2);
            x.weeks(1);
            check.due("strength(" + hand + "), WET 27", x.strength(hand), 1);
            check.due("load(2000), a hand of 1", x.load(2000), 1);
            x.close();
            check.due("strength(" + hand + "), a YEAR on", x.strength(hand), 0);
            check.due("it hangs", x.tension(hand, 50), 50);
            check.due("load(0), a hand of 0", x.load(0), 0);
        }
    }

    private static void tillNow() {
        check.sentence("21: (0: it isn't now)");
        GrassBridge x = Check.hung(0b111111, 1);
        check.due("till(1481)", x.till(1481), 0);
        check.due("till(2000)", x.till(2000), 0);
        check.due("till(1480)", x.till(1480), 1);
        check.due("till(0), nothing is hung", new GrassBridge().till(0), 0);
        check.due("till(0), no hands", Check.hung(0b001111, 1).till(0), 0);
    }

    private static void tillOneWeek() {
        check.sentence("21: In how many WEEKS from now (0 .. 52)");
        GrassBridge x = Check.hung(0b111111, 1);
        // WET by 3 is 1, 3, 5, 6, 8, 10, 11 behind WEEKS of rain 5.
        check.due("till(1480)", x.till(1480), 1);
        check.due("till(1476)", x.till(1476), 2);
        check.due("till(1468)", x.till(1468), 3);
        check.due("till(1136), 86 are lost till the end", x.till(1136), -9);
        check.due("till(1137)", x.till(1137), 52);
        check.due("till(1140)", x.till(1140), 52);
        check.due("till(1141)", x.till(1141), 51);
    }

    private static void tillTheEnd() {
        check.sentence("21: -9 it is till the end");
        GrassBridge x = Check.hung(0b111111, 1);
        for (int week = 0; week < 52; week += 13) {
            x.rain(week, 0);
        }
        check.due("till(1480), no rain", x.till(1480), -9);
        check.due("till(0)", x.till(0), -9);
        x.rain(51, 2);
        check.due("till(1480), WET 2 of WEEKS 40 to 51", x.till(1480), 42);
        for (int week = 39; week < 51; week++) {
            x.rain(week, 0);
        }
        check.due("till(1480), WET 2 in WEEK 51", x.till(1480), -9);
        x.rain(51, 3);
        check.due("till(1480), WET 3 in WEEK 51", x.till(1480), 52);
    }

    private static void tillInWeek52() {
        check.sentence("21: till this YEAR's end");
        GrassBridge x = Check.hung(0b111111, 1);
        x.weeks(51);
        check.due("till(1136) in WEEK 51", x.till(1136), -9);
        check.due("till(1137) in WEEK 51", x.till(1137), 1);
        x.weeks(1);
        check.due("till(1136) in WEEK 52", x.till(1136), -9);
        check.due("till(1137) in WEEK 52", x.till(1137), 0);
        x.close();
        check.due("till(1136), 40 less", x.till(1136), 0);
        check.due("till(976), 40 less", x.till(976), 1);
    }

    private static void tillByHands() {
        check.sentence("21: LOAD would not be let any more: both hands with STRENGTH above 0");
        for (int hand = 4; hand < 6; hand++) {
            GrassBridge x = Check.hung(0b111111 & ~(1 << hand), 1, 9);
            x.set(0, 1, 1);
            x.hang(Check.great(x, 0), hand);
            check.due("till(0), WET 30 behind 6 WEEKS", x.till(0), 6);
            x.weeks(6);
            check.due("it broke", x.broken(0, 0), x.ropeOf(77, 3) == -9 ? 77 : -1);
            check.due("till(0), a hand broke", x.till(0), 0);
        }
    }

    private static void tillByRainThatCounts() {
        check.sentence("21: by RAIN that counts");
        GrassBridge x = Check.hung(0b111111, 1);
        x.rain(12, 9);
        check.due("till(1460), missing as 9", x.till(1460), 1);
        x.rain(0, 0);
        check.due("till(1460), WEEK 0 dry", x.till(1460), 2);
        x.rain(1, 6);
        check.due("till(1473), 6 are not twice", x.till(1473), 2);
        check.due("till(1472), 6 are not twice", x.till(1472), 3);
        x.rain(1, 7);
        check.due("till(1465), 7 are 14", x.till(1465), 2);
        check.due("till(1464), 7 are 14", x.till(1464), 3);
        check.due("till changes nothing", x.count(1), 0);
    }

    private static void breaksAtNone() {
        check.sentence("III: a ROPE whose STRENGTH is 0 as a WEEK ends BREAKS");
        GrassBridge x = Check.hung(0b000001, 1, 1);
        x.weeks(5);
        x.rain(12, 4);
        x.weeks(1);
        check.due("strength(0), WET 29", x.strength(0), 1);
        check.due("count(5), WET 29", x.count(5), 0);
        x.rain(12, 0);
        x.weeks(1);
        check.due("count(5), a dry WEEK", x.count(5), 0);
        x.rain(12, 1);
        x.weeks(1);
        check.due("count(5), WET 30", x.count(5), 1);
        check.due("strength(0)", x.strength(0), 0);
        check.due("it is gone from its PLACE", x.ropeOf(12, 3), -9);
        check.due("cut(0)", x.cut(0), -3);
        x.weeks(44);
        check.due("it breaks once", x.count(5), 1);
    }

    private static void breaksAsWeekEnds() {
        check.sentence("III: as a WEEK ends");
        GrassBridge x = Check.hung(0b000001, 1, 1);
        x.close();
        check.due("strength(0), a YEAR on", x.strength(0), 0);
        check.due("count(5), no WEEK ended", x.count(5), 0);
        check.due("ropeOf(12, 3)", x.ropeOf(12, 3), 0);
        for (int year = 2; year <= 60; year++) {
            x.close();
        }
        check.due("count(5), 60 YEARS on", x.count(5), 0);
        x.rain(0, 0);
        x.weeks(1);
        check.due("count(5), a dry WEEK ended", x.count(5), 1);
        check.due("broken(0, 1)", x.broken(0, 1), 60);
        check.due("broken(0, 2)", x.broken(0, 2), 0);
        GrassBridge cut = Check.hung(0b000001, 1, 1);
        cut.close();
        check.due("cut(0), of STRENGTH 0", cut.cut(0), 12);
        cut.weeks(1);
        check.due("count(5), cut ahead", cut.count(5), 0);
    }

    private static void brokenInEachWeek() {
        check.sentence("22: 1 YEAR, 2 WEEK (that which ended)");
        for (int last = 1; last < 52; last++) {
            GrassBridge x = Check.older(new GrassBridge(), last);
            x.house(0, 1);
            x.set(0, 1, 1);
            x.bring(0, 500, 0);
            x.hang(Check.great(x, 0), 0);
            for (int week = 0; week < 52; week++) {
                x.rain(week, week == last - 1 ? 8 : week == last ? 7 : 0);
            }
            x.weeks(last);
            check.due("count(5), WET 16 in WEEK " + last, x.count(5), 0);
            x.weeks(52 - last);
            check.due("broken(0, 0), WET 30 in WEEK " + last, x.broken(0, 0), 12);
            check.due("broken(0, 1)", x.broken(0, 1), last);
            check.due("broken(0, 2)", x.broken(0, 2), last);
        }
    }

    private static void brokenByPlaces() {
        check.sentence("III: THE BROKEN: by PLACES");
        GrassBridge x = new GrassBridge();
        x.house(0, 1);
        x.set(0, 1, 1);
        x.bring(0, 2000, 0);
        int[] places = {5, 4, 3, 2, 1, 0};
        for (int place : places) {
            x.hang(Check.great(x, 0), place);
        }
        x.weeks(6);
        check.due("count(5)", x.count(5), 6);
        for (int i = 0; i < 6; i++) {
            check.due("broken(" + i + ", 0)", x.broken(i, 0), 12 + 13 * (5 - i));
            check.due("broken(" + i + ", 2)", x.broken(i, 2), 5);
        }
        check.due("broken(6, 0)", x.broken(6, 0), -9);
    }

    /** 200 ropes make 15 great ones, so that fewer than the 40 that are kept can break. */
    private static void allThatCanBreak() {
        check.sentence("III: the first 40 of all are kept");
        GrassBridge x = Check.houses(3);
        for (int house = 0; house < 3; house++) {
            x.set(house, 1, 1);
            x.bring(house, 2000, 0);
        }
        int hung = 0;
        for (int turn = 0; turn < 3; turn++) {
            for (int place = 0; place < 6 && hung < 15; place++) {
                check.due("hang", x.hang(Check.great(x, hung / 7), place), 1);
                hung++;
            }
            x.weeks(6);
            check.due("count(5)", x.count(5), hung);
        }
        check.due("count(3)", x.count(3), 195);
        for (int i = 0; i < 15; i++) {
            check.due("broken(" + i + ", 0)", x.broken(i, 0), 12 + 13 * i);
            check.due("broken(" + i + ", 2)", x.broken(i, 2), i / 6 * 6 + 5);
            check.due("blame(" + i + ")", x.blame(i, i / 7), 27);
        }
        check.due("broken(15, 0)", x.broken(15, 0), -9);
        check.due("blame(15, 0)", x.blame(15, 0), -1);
        check.due("count(5)", x.count(5), 15);
    }

    private static void noneBroken() {
        check.sentence("22: -9 there is none such");
        GrassBridge x = Check.hung(0b000001, 1, 1);
        int[] none = {0, -1, 39, 40, Integer.MIN_VALUE, Integer.MAX_VALUE};
        for (int i : none) {
            for (int what = 0; what < 3; what++) {
                check.due("broken(" + i + ", " + what + ")", x.broken(i, what), -9);
            }
        }
        check.due("-9 is no refusal", x.count(12), 0);
        x.weeks(6);
        check.due("broken(0, 0)", x.broken(0, 0), 12);
        check.due("broken(1, 0)", x.broken(1, 0), -9);
        check.due("broken(-1, 0)", x.broken(-1, 0), -9);
    }

    /** Ten years and a week later each hung rope of that soundness has broken. */
    private static GrassBridge broke(GrassBridge x) {
        Check.older(x, 20);
        x.weeks(1);
        return x;
    }

    private static void blameOfAll() {
        check.sentence("III: BLAME: how many of its 27 CORDS (all of one CARE)");
        GrassBridge x = broke(Check.hung(0b000001, 1));
        check.due("blame(0, 0)", x.blame(0, 0), 27);
        x.house(1, 1);
        check.due("blame(0, 1), none of it", x.blame(0, 1), 0);
        check.due("blame(0, 2), no such HOUSE", x.blame(0, 2), -1);
        check.due("blame(1, 0), none such broke", x.blame(1, 0), -1);
    }

    /** A great rope hung at 0 of nine small ones with two cords of house 0 and one of house 1. */
    private static GrassBridge mixed(int[] caresOfFirst, int[] caresOfSecond) {
        GrassBridge x = Check.houses(3);
        x.bring(0, 180, 0);
        x.bring(1, 90, 0);
        int[] middle = new int[3];
        for (int i = 0; i < 3; i++) {
            int[] small = new int[3];
            for (int j = 0; j < 3; j++) {
                x.set(0, 1, caresOfFirst[3 * i + j]);
                x.set(1, 1, caresOfSecond[3 * i + j]);
                small[j] = x.small(0, 1, 0);
            }
            middle[i] = x.lay(small[0], small[1], small[2]);
        }
        x.hang(x.lay(middle[0], middle[1], middle[2]), 0);
        return x;
    }

    private static void blameOfLeast() {
        check.sentence("III: of SMALL ROPES whose SOUNDNESS was the least in it, with CARE that least");
        GrassBridge second = broke(mixed(new int[] {5, 5, 5, 5, 5, 5, 5, 5, 5}, new int[] {4, 4, 5, 5, 5, 5, 5, 5, 4}));
        check.due("blame(0, 0), in them, but of more CARE", second.blame(0, 0), 0);
        check.due("blame(0, 1), three of 4", second.blame(0, 1), 3);
        GrassBridge both = broke(mixed(new int[] {2, 9, 9, 9, 9, 9, 9, 9, 3}, new int[] {2, 9, 9, 9, 2, 9, 9, 9, 3}));
        check.due("blame(0, 0), one ROPE of 2", both.blame(0, 0), 2);
        check.due("blame(0, 1), two ROPES of 2", both.blame(0, 1), 2);
        check.due("blame(0, 2), none of it", both.blame(0, 2), 0);
        GrassBridge all = broke(mixed(new int[] {1, 1, 1, 1, 1, 1, 1, 1, 1}, new int[] {1, 1, 1, 1, 1, 1, 1, 1, 1}));
        check.due("blame(0, 0)", all.blame(0, 0), 18);
        check.due("blame(0, 1)", all.blame(0, 1), 9);
    }

    private static void blameAsCareWas() {
        check.sentence("III: with CARE (as it was then)");
        GrassBridge x = mixed(new int[] {9, 9, 9, 9, 9, 9, 9, 9, 6}, new int[] {9, 9, 9, 9, 9, 9, 9, 9, 9});
        x.set(0, 1, 9);
        x.set(1, 1, 1);
        broke(x);
        check.due("blame(0, 0), 6 then and 9 now", x.blame(0, 0), 2);
        check.due("blame(0, 1), 9 then and 1 now", x.blame(0, 1), 0);
    }
}
