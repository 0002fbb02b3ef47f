/** Promises 12, 13, 24 and 32: laying ropes, and leading strands back. */
public final class RopesTest {
    private static final Check check = new Check();

    public static void main(String[] args) {
        small();
        lay();
        ropeOf();
        strands();
        full();
        check.end();
    }

    private static void small() {
        GrassBridge x = new GrassBridge();
        for (int i = 0; i < 3; i++) {
            x.house(i, 1);
        }
        x.bring(0, 29, 0);
        x.bring(1, 30, 0);
        check.due("small(0, 0, 0) of 2 cords", x.small(0, 0, 0), -3);
        check.due("small(0, 1, 2), 2 brought nothing", x.small(0, 1, 2), -3);
        check.due("small(0, 1, 3)", x.small(0, 1, 3), -1);
        check.due("small(-1, 1, 0)", x.small(-1, 1, 0), -1);
        check.due("small(0, 3, 0)", x.small(0, 3, 0), -1);
        check.due("small(0, 0, 1)", x.small(0, 0, 1), 0);
        check.due("small(1, 0, 1), none of 0 left", x.small(1, 0, 1), -3);
        check.due("small(1, 1, 1) of 2 cords", x.small(1, 1, 1), -3);
        check.due("count(3)", x.count(3), 1);
        x.bring(2, 100, 0);
        check.due("small(1, 2, 1)", x.small(1, 2, 1), 1);
        check.due("small(2, 1, 2)", x.small(2, 1, 2), -3);
        x.close();
        check.due("small, next year", x.small(2, 2, 2), -3);
        lastCords();
        soundness();
    }

    /** Three houses with a cord each, then two with one and two. */
    private static void lastCords() {
        int[][] rows = {{0, 1, 2}, {3, 3, 4}, {4, 3, 3}, {3, 4, 3}};
        for (int[] row : rows) {
            GrassBridge x = new GrassBridge();
            int[] fathoms = {10, 10, 10, 20, 10};
            for (int i = 0; i < 5; i++) {
                x.house(0, 1);
                x.bring(i, fathoms[i], 0);
            }
            check.due("small of the last cords", x.small(row[0], row[1], row[2]), 0);
            check.due("none is left", x.small(row[0], row[1], row[2]), -3);
            check.due("none is left", x.small(row[2], row[0], row[1]), -3);
        }
    }

    private static void soundness() {
        GrassBridge x = new GrassBridge();
        for (int i = 0; i < 3; i++) {
            x.house(0, 1);
            x.bring(i, 100, 0);
        }
        x.set(0, 1, 9);
        x.set(1, 1, 4);
        check.due("small(0, 0, 0)", x.small(0, 0, 0), 0);
        check.due("small(2, 0, 0)", x.small(2, 0, 0), 1);
        check.due("small(0, 1, 2)", x.small(0, 1, 2), 2);
        x.set(0, 1, 1);
        check.due("ropeOf(0, 1)", x.ropeOf(0, 1), 9);
        check.due("ropeOf(1, 1)", x.ropeOf(1, 1), 5);
        check.due("ropeOf(2, 1)", x.ropeOf(2, 1), 4);
        check.due("lay(2, 0, 1)", x.lay(2, 0, 1), 3);
        check.due("9 and 5 and 4 less 2", x.ropeOf(3, 1), 16);
        for (int i = 4; i < 7; i++) {
            check.due("small of care 1", x.small(0, 1, 2), i);
        }
        check.due("lay(4, 5, 6)", x.lay(4, 5, 6), 7);
        check.due("not below 1", x.ropeOf(7, 1), 1);
    }

    private static void lay() {
        GrassBridge x = new GrassBridge();
        x.house(0, 1);
        x.bring(0, 2000, 0);
        for (int i = 0; i < 12; i++) {
            x.small(0, 0, 0);
        }
        check.due("lay(0, 1, 12)", x.lay(0, 1, 12), -1);
        check.due("lay(-1, 1, 2)", x.lay(-1, 1, 2), -1);
        check.due("lay(1, 12, 2)", x.lay(1, 12, 2), -1);
        check.due("lay(0, 0, 1)", x.lay(0, 0, 1), -1);
        check.due("lay(0, 1, 0)", x.lay(0, 1, 0), -1);
        check.due("lay(1, 0, 0)", x.lay(1, 0, 0), -1);
        check.due("lay(0, 1, 2)", x.lay(0, 1, 2), 12);
        check.due("lay(3, 4, 5)", x.lay(3, 4, 5), 13);
        check.due("lay(6, 7, 8)", x.lay(6, 7, 8), 14);
        check.due("lay(0, 12, 9), laid and of other kinds", x.lay(0, 12, 9), -2);
        check.due("lay(9, 10, 14)", x.lay(9, 10, 14), -2);
        check.due("lay(12, 9, 13)", x.lay(12, 9, 13), -2);
        check.due("lay(9, 10, 2), 2 is laid", x.lay(9, 10, 2), -3);
        check.due("lay(0, 9, 10), 0 is laid", x.lay(0, 9, 10), -3);
        check.due("lay(9, 3, 10), 3 is laid", x.lay(9, 3, 10), -3);
        for (int laid = 0; laid < 9; laid++) {
            check.due("lay(9, 10, " + laid + ")", x.lay(9, 10, laid), -3);
        }
        check.due("lay(14, 12, 13)", x.lay(14, 12, 13), 15);
        for (int laid = 12; laid < 15; laid++) {
            check.due("FREE: " + laid, x.ropeOf(laid, 2), 0);
        }
        check.due("ropeOf(15, 0)", x.ropeOf(15, 0), 2);
        check.due("13 and 13 and 13 less 2", x.ropeOf(15, 1), 37);
        int second = Check.great(x, 0);
        int third = Check.great(x, 0);
        check.due("great ones are not laid", x.lay(15, second, third), -2);
        x.close();
        check.due("lay(9, 10, 11), of last year", x.lay(9, 10, 11), -3);
    }

    private static void ropeOf() {
        GrassBridge x = new GrassBridge();
        x.close();
        x.house(0, 1);
        x.bring(0, 2000, 0);
        int great = Check.great(x, 0);
        int small = x.small(0, 0, 0);
        int[] want = {2, 37, 1, -9, 1};
        for (int what = 0; what < 5; what++) {
            check.due("great: ropeOf(.., " + what + ")", x.ropeOf(great, what), want[what]);
        }
        int[] wantSmall = {0, 5, 1, -9, 1};
        for (int what = 0; what < 5; what++) {
            check.due("small: ropeOf(.., " + what + ")", x.ropeOf(small, what), wantSmall[what]);
        }
        check.due("kind of a middle one", x.ropeOf(3, 0), 1);
        check.due("laid: not FREE", x.ropeOf(3, 2), 0);
        check.due("laid: not FREE", x.ropeOf(0, 2), 0);
        x.hang(great, 5);
        check.due("hung: not FREE", x.ropeOf(great, 2), 0);
        check.due("hung at 5", x.ropeOf(great, 3), 5);
        x.cut(5);
        check.due("was hung: not FREE", x.ropeOf(great, 2), 0);
        check.due("hung nowhere", x.ropeOf(great, 3), -9);
        x.close();
        check.due("of last year: not FREE", x.ropeOf(small, 2), 0);
        check.due("laid in 1", x.ropeOf(small, 4), 1);
        check.due("ropeOf(14, 9)", x.ropeOf(14, 9), -1);
        check.due("ropeOf(-1, 0)", x.ropeOf(-1, 0), -1);
        check.due("ropeOf(0, 5)", x.ropeOf(0, 5), -2);
        check.due("ropeOf(0, -1)", x.ropeOf(0, -1), -2);
    }

    private static void strands() {
        GrassBridge x = new GrassBridge();
        for (int i = 0; i < 4; i++) {
            x.house(0, 1);
            x.bring(i, 2000, 0);
        }
        for (int i = 0; i < 3; i++) {
            int a = x.small(0, 0, 1);
            int b = x.small(1, 0, 2);
            int c = x.small(1, 1, 1);
            int middle = x.lay(a, b, c);
            check.due("middle " + i + " of 0", x.strands(middle, 0), 3);
            check.due("middle " + i + " of 1", x.strands(middle, 1), 5);
            check.due("middle " + i + " of 2", x.strands(middle, 2), 1);
            check.due("small " + i + " of 1", x.strands(b, 1), 1);
        }
        int great = x.lay(3, 7, 11);
        check.due("great of 0", x.strands(great, 0), 9);
        check.due("great of 1", x.strands(great, 1), 15);
        check.due("great of 2", x.strands(great, 2), 3);
        check.due("great of 3", x.strands(great, 3), 0);
        check.due("strands(.., 4)", x.strands(great, 4), -1);
        check.due("strands(.., -1)", x.strands(great, -1), -1);
        check.due("strands(13, 0)", x.strands(13, 0), -1);
        check.due("strands(-1, 0)", x.strands(-1, 0), -1);
        x.close();
        check.due("great of 1, next year", x.strands(great, 1), 15);
    }

    private static void full() {
        GrassBridge x = new GrassBridge();
        for (int i = 0; i < 4; i++) {
            x.house(0, 1);
            x.bring(i, 2000, 0);
        }
        for (int i = 0; i < 200; i++) {
            int house = i / 60;
            check.due("small " + i, x.small(house, house, house), i);
        }
        check.due("small 200", x.small(3, 3, 3), -6);
        check.due("lay, 200 laid", x.lay(0, 1, 2), -6);
        check.due("lay(0, 0, 1), 200 laid", x.lay(0, 0, 1), -1);
        check.due("small, none left", x.small(3, 0, 4), -1);
        x.close();
        check.due("-3 before -6: small", x.small(0, 0, 0), -3);
        check.due("-3 before -6: lay", x.lay(0, 1, 2), -3);
        check.due("count(3)", x.count(3), 200);
        check.due("not FREE any more", x.ropeOf(0, 2), 0);
    }
}
