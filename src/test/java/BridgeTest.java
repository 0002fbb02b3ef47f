/** Promises 14 to 23: hanging and cutting, tension, strength, loads, weeks, breaks and blame. */
public final class BridgeTest {
    private static final Check check = new Check();

    public static void main(String[] args) {
        hangAndCut();
        tension();
        strength();
        bears();
        load();
        wetAsItCounted();
        till();
        tillAsWeeksPass();
        breaks();
        breaksByPlaces();
        blame();
        blameOfOneCord();
        check.end();
    }

    private static void hangAndCut() {
        GrassBridge x = new GrassBridge();
        x.house(0, 1);
        x.bring(0, 2000, 0);
        int great = Check.great(x, 0);
        int other = Check.great(x, 0);
        int middle = Check.middle(x, 0);
        int small = x.small(0, 0, 0);
        check.due("hang(99, 0)", x.hang(99, 0), -1);
        check.due("hang(-1, 0)", x.hang(-1, 0), -1);
        check.due("hang(great, 6)", x.hang(great, 6), -1);
        check.due("hang(great, -1)", x.hang(great, -1), -1);
        check.due("hang(middle, 6)", x.hang(middle, 6), -1);
        check.due("hang(middle, 0)", x.hang(middle, 0), -2);
        check.due("hang(small, 0)", x.hang(small, 0), -2);
        check.due("hang(great, 3)", x.hang(great, 3), 1);
        check.due("hang(great, 4)", x.hang(great, 4), -3);
        check.due("hang(other, 3)", x.hang(other, 3), -3);
        check.due("hang(middle, 3)", x.hang(middle, 3), -2);
        check.due("cut(6)", x.cut(6), -1);
        check.due("cut(-1)", x.cut(-1), -1);
        check.due("cut(0)", x.cut(0), -3);
        check.due("cut(3)", x.cut(3), great);
        check.due("cut(3)", x.cut(3), -3);
        check.due("hang(great, 3), was hung", x.hang(great, 3), -3);
        check.due("hang(other, 3)", x.hang(other, 3), 1);
        int third = Check.great(x, 0);
        x.close();
        check.due("hang(third, 0), of last year", x.hang(third, 0), -3);
        check.due("the bridge stays", x.cut(3), other);
    }

    private static void tension() {
        GrassBridge x = Check.hung(0b000101, 1);
        check.due("tension(0, 0)", x.tension(0, 0), 50);
        check.due("tension(0, 99)", x.tension(0, 99), 0);
        check.due("tension(2, 7)", x.tension(2, 7), 50);
        check.due("tension(0, 1)", x.tension(0, 1), 99);
        check.due("tension(1, -5)", x.tension(1, -5), -3);
        check.due("tension(6, -5)", x.tension(6, -5), -1);
        check.due("tension(-1, 5)", x.tension(-1, 5), -1);
        check.due("tension(0, -1)", x.tension(0, -1), -4);
        check.due("tension(0, 100)", x.tension(0, 100), -6);
        check.due("tension(0, 1) stays", x.tension(0, 1), 1);
        x.cut(0);
        check.due("tension(0, 5), cut", x.tension(0, 5), -3);
        x.hang(Check.great(x, 0), 0);
        check.due("50 when hung", x.tension(0, 5), 50);
        x.close();
        check.due("tension stays in the next year", x.tension(0, 6), 5);
    }

    private static void strength() {
        GrassBridge x = Check.hung(0b010001, 1);
        check.due("strength(0)", x.strength(0), 370);
        check.due("strength(1)", x.strength(1), 0);
        check.due("strength(6)", x.strength(6), -1);
        check.due("strength(-1)", x.strength(-1), -1);
        int[] rains = {0, 1, 6, 7, 9, 2};
        int[] wets = {0, 1, 7, 21, 39, 41};
        for (int week = 0; week < rains.length; week++) {
            x.rain(week, rains[week]);
            x.weeks(1);
            check.due("strength(0) behind week " + week, x.strength(0), 370 - wets[week] / 3);
        }
        x.hang(Check.great(x, 0), 1);
        check.due("strength(1), just hung", x.strength(1), 370);
        x.rain(6, 5);
        x.weeks(1);
        check.due("strength(1), a week on", x.strength(1), 369);
        check.due("strength(0)", x.strength(0), 370 - 15);
        x.close();
        check.due("strength(0), a year older", x.strength(0), 370 - 15 - 40);
        check.due("strength(1), a year older", x.strength(1), 369 - 40);
        check.due("strength(4), a year older", x.strength(4), 370 - 15 - 40);
        x.close();
        check.due("strength(0), two years older", x.strength(0), 370 - 15 - 80);
        x.bring(0, 300, 0);
        x.hang(Check.great(x, 0), 2);
        check.due("strength(2), just hung", x.strength(2), 370);
        x.close();
        check.due("strength(2), a year older", x.strength(2), 330);
        for (int i = 0; i < 10; i++) {
            x.close();
        }
        check.due("not below 0", x.strength(0), 0);
        check.due("it hangs yet", x.ropeOf(12, 3), 0);
    }

    private static void bears() {
        GrassBridge x = Check.hung(0b001111, 1);
        check.due("bears()", x.bears(), 1480);
        x.tension(1, 99);
        x.tension(2, 1);
        check.due("bears(), uneven", x.bears(), 1480 - 98);
        x.tension(1, 50);
        check.due("bears(), less uneven", x.bears(), 1480 - 49);
        x.tension(2, 50);
        x.weeks(3);
        x.cut(0);
        check.due("bears(), 0 is empty", x.bears(), 0);
        x.hang(Check.great(x, 0), 0);
        check.due("bears() by the worst", x.bears(), 4 * 365);
        x.cut(3);
        check.due("bears(), 3 is empty", x.bears(), 0);
        evenAtTheEdges();
        notBelow0();
    }

    private static void evenAtTheEdges() {
        int[] tensions = {0, 99};
        for (int tension : tensions) {
            GrassBridge x = Check.hung(0b111111, 1);
            for (int place = 0; place < 4; place++) {
                x.tension(place, tension);
            }
            check.due("bears(), all of " + tension, x.bears(), 1480);
            x.rain(0, 2);
            x.weeks(1);
            check.due("bears(), 2 of wet are none by 3", x.bears(), 1480);
            check.due("load(1480)", x.load(1480), 1);
            check.due("till(1480)", x.till(1480), 1);
            x.rain(1, 1);
            x.weeks(1);
            check.due("bears(), 3 of wet", x.bears(), 1476);
            check.due("till(1480)", x.till(1480), 0);
        }
        GrassBridge hands = Check.hung(0b111111, 1);
        hands.tension(4, 0);
        hands.tension(5, 99);
        check.due("hands need not be even", hands.bears(), 1480);
    }

    private static void notBelow0() {
        GrassBridge x = Check.hung(0b111111, 1);
        for (int i = 0; i < 9; i++) {
            x.close();
        }
        check.due("strength(0)", x.strength(0), 10);
        x.tension(0, 99);
        x.tension(1, 60);
        check.due("4 times 10 less 49", x.bears(), 0);
        x.tension(0, 60);
        check.due("4 times 10 less 10", x.bears(), 30);
        x.close();
        check.due("of strength 0", x.bears(), 0);
        check.due("load(0), hands of strength 0", x.load(0), 0);
    }

    private static void load() {
        GrassBridge x = Check.hung(0b111111, 1);
        check.due("load(0)", x.load(0), 1);
        check.due("load(1480)", x.load(1480), 1);
        check.due("load(1481)", x.load(1481), 0);
        check.due("load(2000)", x.load(2000), 0);
        check.due("load(2001)", x.load(2001), -6);
        check.due("load(-1)", x.load(-1), -4);
        x.cut(0);
        check.due("load(0), no floor", x.load(0), 1);
        check.due("load(1), no floor", x.load(1), 0);
        GrassBridge left = Check.hung(0b011111, 1);
        check.due("load(0), one hand", left.load(0), 0);
        GrassBridge right = Check.hung(0b101111, 1);
        check.due("load(1), other hand", right.load(1), 0);
    }

    private static void wetAsItCounted() {
        GrassBridge x = Check.hung(0b000001, 1);
        x.rain(12, 0);
        x.weeks(3);
        check.due("rain 0 counted", x.strength(0), 370);
        x.rain(12, 9);
        x.rain(0, 9);
        check.due("told later, of weeks behind", x.strength(0), 370);
        x.weeks(1);
        check.due("rain 9 counts now", x.strength(0), 364);
        check.due("weeks(48)", x.weeks(48), 52);
        check.due("9 weeks of 18, 39 of 5", x.strength(0), 370 - (18 + 162 + 195) / 3);
    }

    private static void till() {
        GrassBridge x = Check.hung(0b111111, 1);
        check.due("till(-1)", x.till(-1), -4);
        check.due("till(2001)", x.till(2001), -6);
        check.due("till(1481)", x.till(1481), 0);
        check.due("till(1480)", x.till(1480), 1);
        // 52 weeks of rain 5 are 260: 86 less.
        check.due("till(1136)", x.till(1136), -9);
        check.due("till(1137)", x.till(1137), 52);
        check.due("till(0)", x.till(0), -9);
        x.weeks(2);
        check.due("till(1137), 2 weeks on", x.till(1137), 50);
        check.due("till changes nothing", x.bears(), 4 * 367);
        x.rain(3, 9);
        check.due("till(1465) by told rain", x.till(1465), 1);
        check.due("till(1450), missing as 9", x.till(1450), 1);
        x.rain(2, 0);
        check.due("till(1468), week 2 dry", x.till(1468), 2);
        x.weeks(50);
        check.due("till(0) at 52", x.till(0), -9);
        check.due("till(2000) at 52", x.till(2000), 0);
        x.cut(4);
        check.due("till(0), a hand is gone", x.till(0), 0);
    }

    /** What till says is what comes as the weeks pass one by one, on weak ropes, breaks too. */
    private static void tillAsWeeksPass() {
        Check.Dice dice = new Check.Dice(11);
        for (int run = 0; run < 40; run++) {
            GrassBridge x = Check.hung(0b111111, 1);
            for (int place = 0; place < 6; place++) {
                x.tension(place, dice.below(100));
            }
            int years = dice.below(10);
            for (int i = 0; i < years; i++) {
                x.close();
            }
            for (int i = 0; i < 8; i++) {
                x.rain(dice.below(52), dice.below(10));
            }
            int load = dice.below(Math.max(1, x.bears() + 20));
            int till = x.till(load);
            int passed = 0;
            while (x.load(load) == 1 && passed < 52) {
                x.weeks(1);
                passed++;
            }
            check.due("run " + run + ": till(" + load + ")", till, x.load(load) == 1 ? -9 : passed);
        }
    }

    private static void breaks() {
        GrassBridge x = Check.hung(0b000001, 1);
        int rope = 12;
        for (int i = 0; i < 9; i++) {
            x.close();
        }
        check.due("strength(0)", x.strength(0), 10);
        check.due("broken(0, 0)", x.broken(0, 0), -9);
        x.weeks(5);
        check.due("strength(0) behind 5", x.strength(0), 2);
        check.due("count(5)", x.count(5), 0);
        x.rain(5, 4);
        x.weeks(1);
        check.due("strength(0) of wet 29", x.strength(0), 1);
        check.due("count(5)", x.count(5), 0);
        x.rain(6, 1);
        x.weeks(1);
        check.due("strength(0) of wet 30", x.strength(0), 0);
        check.due("count(5)", x.count(5), 1);
        check.due("broken(0, 0)", x.broken(0, 0), rope);
        check.due("broken(0, 1)", x.broken(0, 1), 9);
        check.due("broken(0, 2)", x.broken(0, 2), 6);
        check.due("gone from its place", x.ropeOf(rope, 3), -9);
        check.due("cut(0)", x.cut(0), -3);
        check.due("tension(0, 1)", x.tension(0, 1), -3);
        check.due("strands stay", x.strands(rope, 0), 27);
        check.due("broken(1, 0)", x.broken(1, 0), -9);
        check.due("broken(-1, 0)", x.broken(-1, 0), -9);
        check.due("broken(0, 3)", x.broken(0, 3), -2);
        check.due("broken(7, -1)", x.broken(7, -1), -2);
        x.bring(0, 300, 0);
        check.due("hang a new one", x.hang(Check.great(x, 0), 0), 1);
        check.due("it breaks not at once", x.weeks(1), 8);
        check.due("count(5)", x.count(5), 1);
    }

    private static void breaksByPlaces() {
        GrassBridge x = new GrassBridge();
        x.house(0, 1);
        x.bring(0, 2000, 0);
        int[] places = {5, 1, 3};
        int[] ropes = new int[3];
        for (int i = 0; i < 3; i++) {
            ropes[i] = Check.great(x, 0);
            x.hang(ropes[i], places[i]);
        }
        for (int i = 0; i < 10; i++) {
            x.close();
        }
        check.due("of strength 0, but no week ended", x.count(5), 0);
        check.due("cut(5)", x.ropeOf(ropes[0], 3), 5);
        x.rain(0, 0);
        x.weeks(4);
        check.due("all three broke", x.count(5), 3);
        check.due("broken(0, 0)", x.broken(0, 0), ropes[1]);
        check.due("broken(1, 0)", x.broken(1, 0), ropes[2]);
        check.due("broken(2, 0)", x.broken(2, 0), ropes[0]);
        for (int i = 0; i < 3; i++) {
            check.due("year of " + i, x.broken(i, 1), 10);
            check.due("week of " + i, x.broken(i, 2), 0);
        }
    }

    private static void blame() {
        GrassBridge x = new GrassBridge();
        for (int i = 0; i < 4; i++) {
            x.house(i, 1);
            x.bring(i, 2000, 0);
        }
        x.set(0, 1, 2);
        x.set(1, 1, 2);
        x.set(3, 1, 3);
        // Soundness 2, 2, 3, and six of 5.
        int[] small = new int[9];
        small[0] = x.small(0, 0, 1);
        small[1] = x.small(2, 1, 3);
        small[2] = x.small(3, 3, 2);
        x.set(0, 1, 9);
        for (int i = 3; i < 9; i++) {
            small[i] = x.small(0, 2, 2);
        }
        x.set(1, 1, 9);
        int a = x.lay(small[0], small[3], small[4]);
        int b = x.lay(small[1], small[5], small[6]);
        int c = x.lay(small[2], small[7], small[8]);
        int great = x.lay(a, b, c);
        x.hang(great, 2);
        check.due("blame(0, 0), none broke", x.blame(0, 0), -1);
        for (int i = 0; i < 10; i++) {
            x.close();
        }
        x.weeks(1);
        check.due("broken(0, 0)", x.broken(0, 0), great);
        check.due("blame(0, 0)", x.blame(0, 0), 2);
        check.due("blame(0, 1)", x.blame(0, 1), 2);
        check.due("blame(0, 2), of care 5", x.blame(0, 2), 0);
        check.due("blame(0, 3), of care 3", x.blame(0, 3), 0);
        check.due("blame(0, 4)", x.blame(0, 4), -1);
        check.due("blame(0, -1)", x.blame(0, -1), -1);
        check.due("blame(1, 0)", x.blame(1, 0), -1);
        check.due("blame(-1, 0)", x.blame(-1, 0), -1);
    }

    /** One cord of the 27 is the worst, wherever it lies. */
    private static void blameOfOneCord() {
        for (int worst = 0; worst < 27; worst++) {
            GrassBridge x = new GrassBridge();
            x.house(0, 1);
            x.house(1, 1);
            x.bring(0, 500, 0);
            x.bring(1, 500, 0);
            x.set(1, 1, 1);
            int[] ropes = new int[9];
            for (int i = 0; i < 9; i++) {
                int at = worst - 3 * i;
                ropes[i] = x.small(at == 0 ? 1 : 0, at == 1 ? 1 : 0, at == 2 ? 1 : 0);
            }
            int a = x.lay(ropes[0], ropes[1], ropes[2]);
            int b = x.lay(ropes[3], ropes[4], ropes[5]);
            int c = x.lay(ropes[6], ropes[7], ropes[8]);
            x.hang(x.lay(a, b, c), 0);
            x.set(1, 1, 9);
            for (int i = 0; i < 9; i++) {
                x.close();
            }
            x.weeks(52);
            check.due("worst cord " + worst + ": blame(0, 0)", x.blame(0, 0), 0);
            check.due("worst cord " + worst + ": blame(0, 1)", x.blame(0, 1), 1);
        }
    }
}
