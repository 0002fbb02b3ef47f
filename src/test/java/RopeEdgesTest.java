/** The edges of CORDS, ROPES, FREE and SOUNDNESS, a method for each sentence that names one. */
public final class RopeEdgesTest {
    private static final Check check = new Check();

    public static void main(String[] args) {
        twoHundredCords();
        lastCord();
        someMayBeOne();
        cordsOfThisYear();
        twoHundredSmall();
        twoHundredLaid();
        laidIntoNone();
        neverHung();
        laidThisYear();
        leastCare();
        careWhenLaid();
        lessTwo();
        notBelowOne();
        soundest();
        kinds();
        places();
        yearLaid();
        strandsOfAll();
        check.end();
    }

    private static void twoHundredCords() {
        check.sentence("II: a HOUSE's FATHOMS become CORDS of 10 each");
        GrassBridge x = Check.houses(1);
        x.bring(0, 2000, 0);
        for (int i = 0; i < 66; i++) {
            check.due("small of 200 CORDS", x.small(0, 0, 0), i);
        }
        check.due("small of 2 left", x.small(0, 0, 0), -3);
        x.house(0, 1);
        x.bring(1, 10, 0);
        check.due("small(0, 0, 1)", x.small(0, 0, 1), 66);
        check.due("small(0, 1, 1), none is left", x.small(0, 1, 1), -3);
    }

    private static void lastCord() {
        check.sentence("II: one that brought and has a CORD left this YEAR");
        int[][] rows = {{0, 1, 2}, {2, 0, 1}, {1, 2, 0}};
        for (int[] row : rows) {
            for (int without = 0; without < 3; without++) {
                GrassBridge x = Check.houses(3);
                for (int house = 0; house < 3; house++) {
                    x.bring(house, house == without ? 9 : 10, 0);
                }
                check.due("small, 9 FATHOMS of " + without, x.small(row[0], row[1], row[2]), -3);
                x.bring(without, 10, 0);
                check.due("small, 10 FATHOMS of " + without, x.small(row[0], row[1], row[2]), 0);
                check.due("small, none is left", x.small(row[0], row[1], row[2]), -3);
            }
        }
    }

    private static void someMayBeOne() {
        check.sentence("12: CORDS of three HOUSES (some may be one)");
        int[][] rows = {{0, 0, 0}, {0, 0, 1}, {0, 1, 0}, {1, 0, 0}, {1, 1, 0}, {1, 0, 1}, {0, 1, 1}};
        for (int[] row : rows) {
            int ofFirst = 0;
            for (int house : row) {
                ofFirst += house == 0 ? 1 : 0;
            }
            GrassBridge x = Check.houses(2);
            x.bring(1, 20, 0);
            x.bring(0, 10 * ofFirst - 1, 0);
            check.due("small, one CORD too few", x.small(row[0], row[1], row[2]), -3);
            x.bring(0, 10 * ofFirst, 0);
            check.due("small, CORDS enough", x.small(row[0], row[1], row[2]), 0);
            check.due("strands(0, 0)", x.strands(0, 0), ofFirst);
            check.due("strands(0, 1)", x.strands(0, 1), 3 - ofFirst);
        }
    }

    private static void cordsOfThisYear() {
        check.sentence("II: a CORD left this YEAR");
        GrassBridge x = Check.houses(1);
        x.bring(0, 2000, 0);
        x.small(0, 0, 0);
        x.close();
        check.due("small of last YEAR's CORDS", x.small(0, 0, 0), -3);
        x.bring(0, 30, 0);
        check.due("small of this YEAR's", x.small(0, 0, 0), 1);
        check.due("small, none is left", x.small(0, 0, 0), -3);
    }

    private static void twoHundredSmall() {
        check.sentence("II: ROPES have numbers from 0 on (200 at most); 12: -6 there are 200");
        GrassBridge x = Check.ropes(0);
        for (int i = 0; i < 200; i++) {
            check.due("small " + i, x.small(i / 60, i / 60, i / 60), i);
        }
        check.due("small 200", x.small(3, 3, 3), -6);
        check.due("count(3)", x.count(3), 200);
        check.due("ropeOf(199, 0)", x.ropeOf(199, 0), 0);
        check.due("ropeOf(200, 0)", x.ropeOf(200, 0), -1);
        x.close();
        x.bring(0, 2000, 0);
        check.due("small 200, next YEAR", x.small(0, 0, 0), -6);
    }

    private static void twoHundredLaid() {
        check.sentence("II: ROPES (200 at most); 13: -6");
        GrassBridge x = Check.ropes(199);
        check.due("lay 199", x.lay(0, 1, 2), 199);
        check.due("lay 200", x.lay(3, 4, 5), -6);
        check.due("small 200", x.small(3, 3, 3), -6);
        check.due("they are FREE yet", x.ropeOf(3, 2), 1);
        check.due("ropeOf(199, 0)", x.ropeOf(199, 0), 1);
        check.due("count(3)", x.count(3), 200);
    }

    private static void laidIntoNone() {
        check.sentence("II: a ROPE is FREE if it is laid into none");
        GrassBridge x = Check.ropes(12);
        for (int i = 0; i < 12; i++) {
            check.due("ropeOf(" + i + ", 2)", x.ropeOf(i, 2), 1);
        }
        check.due("lay(0, 1, 2)", x.lay(0, 1, 2), 12);
        for (int i = 0; i < 12; i++) {
            check.due("ropeOf(" + i + ", 2)", x.ropeOf(i, 2), i < 3 ? 0 : 1);
            check.due("lay it again", x.lay(3, 4, i < 3 ? i : 3), i < 3 ? -3 : -1);
        }
        check.due("lay(3, 4, 5)", x.lay(3, 4, 5), 13);
        check.due("lay(6, 7, 8)", x.lay(6, 7, 8), 14);
        check.due("ropeOf(12, 2)", x.ropeOf(12, 2), 1);
        check.due("lay(12, 13, 14)", x.lay(12, 13, 14), 15);
        check.due("ropeOf(12, 2)", x.ropeOf(12, 2), 0);
        check.due("ropeOf(15, 2)", x.ropeOf(15, 2), 1);
    }

    private static void neverHung() {
        check.sentence("II: FREE if it was never hung");
        GrassBridge x = Check.hung(0, 1);
        int great = Check.great(x, 0);
        check.due("hang(great, 0)", x.hang(great, 0), 1);
        check.due("ropeOf(great, 2), hung", x.ropeOf(great, 2), 0);
        check.due("hang(great, 1), hung", x.hang(great, 1), -3);
        check.due("cut(0)", x.cut(0), great);
        check.due("ropeOf(great, 2), cut", x.ropeOf(great, 2), 0);
        check.due("hang(great, 1), cut", x.hang(great, 1), -3);
        GrassBridge broke = Check.hung(1, 1, 1);
        broke.weeks(6);
        check.due("count(5)", broke.count(5), 1);
        check.due("ropeOf(12, 2), it broke", broke.ropeOf(12, 2), 0);
        check.due("hang(12, 0), it broke", broke.hang(12, 0), -3);
    }

    private static void laidThisYear() {
        check.sentence("II: FREE if it was laid in this YEAR");
        GrassBridge x = Check.hung(0, 1);
        int great = Check.great(x, 0);
        int middle = Check.middle(x, 0);
        int small = x.small(0, 0, 0);
        x.weeks(52);
        check.due("ropeOf(great, 2), WEEK 52", x.ropeOf(great, 2), 1);
        x.close();
        int[] ropes = {great, middle, small};
        for (int rope : ropes) {
            check.due("ropeOf(" + rope + ", 2), next YEAR", x.ropeOf(rope, 2), 0);
        }
        check.due("hang(great, 0), next YEAR", x.hang(great, 0), -3);
        x.bring(0, 60, 0);
        int a = x.small(0, 0, 0);
        int b = x.small(0, 0, 0);
        check.due("lay one of last YEAR", x.lay(small, a, b), -3);
        check.due("lay one of last YEAR", x.lay(a, b, small), -3);
    }

    private static void leastCare() {
        check.sentence("II: SOUNDNESS of a SMALL one: the least CARE of its HOUSES (CARE 1 .. 9)");
        int[][] rows = {{1, 9, 9}, {9, 1, 9}, {9, 9, 1}, {9, 9, 9}, {1, 1, 1}, {8, 9, 9}, {3, 2, 4}, {5, 5, 6}};
        for (int[] row : rows) {
            GrassBridge x = Check.houses(3);
            for (int house = 0; house < 3; house++) {
                x.bring(house, 10, 0);
                x.set(house, 1, row[house]);
            }
            x.small(0, 1, 2);
            check.due("ropeOf(0, 1)", x.ropeOf(0, 1), Math.min(row[0], Math.min(row[1], row[2])));
        }
    }

    private static void careWhenLaid() {
        check.sentence("II: SOUNDNESS when it is laid");
        GrassBridge x = Check.houses(1);
        x.bring(0, 60, 0);
        x.small(0, 0, 0);
        check.due("ropeOf(0, 1), CARE 5 at first", x.ropeOf(0, 1), 5);
        x.set(0, 1, 9);
        check.due("ropeOf(0, 1), laid ahead", x.ropeOf(0, 1), 5);
        x.small(0, 0, 0);
        check.due("ropeOf(1, 1), laid behind", x.ropeOf(1, 1), 9);
    }

    /** A middle rope of small ones of such cares. */
    private static GrassBridge middleOf(int... cares) {
        GrassBridge x = Check.houses(1);
        x.bring(0, 90, 0);
        for (int care : cares) {
            x.set(0, 1, care);
            x.small(0, 0, 0);
        }
        x.lay(0, 1, 2);
        return x;
    }

    private static void lessTwo() {
        check.sentence("II: of others the sum of that of their parts, less 2");
        check.due("1 and 2 and 2", middleOf(1, 2, 2).ropeOf(3, 1), 3);
        check.due("9 and 9 and 9", middleOf(9, 9, 9).ropeOf(3, 1), 25);
        check.due("1 and 5 and 9", middleOf(1, 5, 9).ropeOf(3, 1), 13);
    }

    private static void notBelowOne() {
        check.sentence("II: less 2 (not below 1)");
        check.due("1 and 1 and 1", middleOf(1, 1, 1).ropeOf(3, 1), 1);
        check.due("2 and 1 and 1", middleOf(2, 1, 1).ropeOf(3, 1), 2);
        GrassBridge x = Check.hung(1, 1, 1);
        check.due("a great one of 1 and 1 and 1", x.ropeOf(12, 1), 1);
        check.due("strength(0)", x.strength(0), 10);
    }

    private static void soundest() {
        check.sentence("II: SOUNDNESS, at most of CARE 9");
        GrassBridge x = Check.hung(0b111111, 1, 9);
        check.due("a small one", x.ropeOf(0, 1), 9);
        check.due("a middle one", x.ropeOf(3, 1), 25);
        check.due("a great one", x.ropeOf(12, 1), 73);
        check.due("strength(0)", x.strength(0), 730);
        check.due("bears()", x.bears(), 2920);
        check.due("load(2000)", x.load(2000), 1);
    }

    private static void kinds() {
        check.sentence("13: three FREE ones of one kind, not GREAT; 32: 0 SMALL, 1 MIDDLE, 2 GREAT");
        GrassBridge x = Check.hung(0, 1);
        int a = Check.great(x, 0);
        int b = Check.great(x, 0);
        int c = Check.great(x, 0);
        check.due("lay(a, b, c), GREAT", x.lay(a, b, c), -2);
        check.due("ropeOf(a, 0)", x.ropeOf(a, 0), 2);
        check.due("ropeOf(a - 1, 0)", x.ropeOf(a - 1, 0), 1);
        check.due("ropeOf(0, 0)", x.ropeOf(0, 0), 0);
        int d = Check.middle(x, 0);
        int e = x.small(0, 0, 0);
        int f = x.small(0, 0, 0);
        check.due("lay(d, e, f)", x.lay(d, e, f), -2);
        check.due("hang(d, 0)", x.hang(d, 0), -2);
        check.due("hang(e, 0)", x.hang(e, 0), -2);
        check.due("hang(a, 0)", x.hang(a, 0), 1);
    }

    private static void places() {
        check.sentence("32: 3 the PLACE at which it hangs (-9)");
        GrassBridge x = Check.hung(0, 1);
        for (int place = 0; place < 6; place++) {
            int great = Check.great(x, 0);
            check.due("ropeOf(.., 3), not hung", x.ropeOf(great, 3), -9);
            x.hang(great, place);
            check.due("ropeOf(.., 3), hung", x.ropeOf(great, 3), place);
            x.cut(place);
            check.due("ropeOf(.., 3), cut", x.ropeOf(great, 3), -9);
        }
        check.due("ropeOf(0, 3), a small one", x.ropeOf(0, 3), -9);
    }

    private static void yearLaid() {
        check.sentence("32: 4 the YEAR in which it was laid");
        GrassBridge x = Check.houses(1);
        int[] years = {0, 1, 60};
        for (int year : years) {
            Check.older(x, year - x.count(0));
            x.bring(0, 30, 0);
            int rope = x.small(0, 0, 0);
            check.due("ropeOf(.., 4) of " + year, x.ropeOf(rope, 4), year);
        }
        check.due("ropeOf(0, 4)", x.ropeOf(0, 4), 0);
        check.due("ropeOf(1, 4)", x.ropeOf(1, 4), 1);
    }

    private static void strandsOfAll() {
        check.sentence("24: CORDS of a HOUSE in a ROPE");
        GrassBridge x = Check.houses(24);
        x.bring(0, 2000, 0);
        x.bring(23, 10, 0);
        int last = x.small(23, 0, 0);
        int a = x.lay(last, x.small(0, 0, 0), x.small(0, 0, 0));
        int great = x.lay(a, Check.middle(x, 0), Check.middle(x, 0));
        check.due("strands(great, 0)", x.strands(great, 0), 26);
        check.due("strands(great, 23)", x.strands(great, 23), 1);
        check.due("strands(great, 1), none of it", x.strands(great, 1), 0);
        check.due("strands(great, 24)", x.strands(great, 24), -1);
        check.due("strands(a, 0)", x.strands(a, 0), 8);
        check.due("strands(last, 0)", x.strands(last, 0), 2);
    }
}
