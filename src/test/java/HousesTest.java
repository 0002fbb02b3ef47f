/** Promises 4 to 11: houses, what they bring, their shares, and what they owe. */
public final class HousesTest {
    private static final Check check = new Check();

    public static void main(String[] args) {
        house();
        set();
        bring();
        brought();
        ask();
        share();
        owed();
        ordersOfRefusals();
        check.end();
    }

    private static void house() {
        GrassBridge x = new GrassBridge();
        check.due("house(-1, 1)", x.house(-1, 1), -1);
        check.due("house(4, 0)", x.house(4, 0), -1);
        check.due("house(3, 0)", x.house(3, 0), -4);
        check.due("house(3, 10)", x.house(3, 10), -6);
        check.due("count(2)", x.count(2), 0);
        for (int i = 0; i < 24; i++) {
            check.due("house " + i, x.house(i % 4, 1 + i % 9), i);
        }
        check.due("house 24", x.house(0, 1), -6);
        check.due("house 24, hands 0", x.house(0, 0), -4);
        check.due("house 24, village 4", x.house(4, 1), -1);
        check.due("count(2)", x.count(2), 24);
        check.due("count(16)", x.count(16), 2);
        check.due("count(4)", x.count(4), 45 + 45 + 1 + 2 + 3 + 4 + 5 + 6);
    }

    private static void set() {
        GrassBridge x = new GrassBridge();
        x.house(2, 7);
        x.house(2, 4);
        check.due("set(0, 0, 9)", x.set(0, 0, 9), 7);
        check.due("set(0, 0, 1)", x.set(0, 0, 1), 9);
        check.due("count(4)", x.count(4), 5);
        check.due("set(0, 1, 9)", x.set(0, 1, 9), 5);
        check.due("set(0, 1, 1)", x.set(0, 1, 1), 9);
        check.due("set(0, 2, 1)", x.set(0, 2, 1), 1);
        check.due("set(0, 2, 0)", x.set(0, 2, 0), 1);
        check.due("set(0, 2, 0)", x.set(0, 2, 0), 0);
        check.due("count(4)", x.count(4), 4);
        check.due("set(0, 2, 1)", x.set(0, 2, 1), 0);
        check.due("count(4)", x.count(4), 5);
        check.due("set(2, 0, 1)", x.set(2, 0, 1), -1);
        check.due("set(-1, 9, 99)", x.set(-1, 9, 99), -1);
        check.due("set(0, -1, 0)", x.set(0, -1, 0), -2);
        check.due("set(0, 3, 1)", x.set(0, 3, 1), -2);
        check.due("set(0, 0, 0)", x.set(0, 0, 0), -4);
        check.due("set(0, 0, 10)", x.set(0, 0, 10), -6);
        check.due("set(0, 1, 0)", x.set(0, 1, 0), -4);
        check.due("set(0, 1, 10)", x.set(0, 1, 10), -6);
        check.due("set(0, 2, -1)", x.set(0, 2, -1), -4);
        check.due("set(0, 2, 2)", x.set(0, 2, 2), -6);
        check.due("set(0, 0, 1) stays", x.set(0, 0, 1), 1);
        check.due("set(0, 1, 1) stays", x.set(0, 1, 1), 1);
    }

    private static void bring() {
        GrassBridge x = new GrassBridge();
        x.house(0, 3);
        check.due("bring(0, 0, 0)", x.bring(0, 0, 0), 0);
        check.due("bring(0, 9, 20)", x.bring(0, 9, 20), 0);
        check.due("bring(0, 2000, 20)", x.bring(0, 2000, 20), 200);
        check.due("bring(0, 39, 5)", x.bring(0, 39, 5), 3);
        check.due("told anew", x.brought(0, 1), 39);
        check.due("bring(1, 0, 0)", x.bring(1, 0, 0), -1);
        check.due("bring(0, -1, 21)", x.bring(0, -1, 21), -4);
        check.due("bring(0, 2001, -1)", x.bring(0, 2001, -1), -4);
        check.due("bring(0, 2001, 0)", x.bring(0, 2001, 0), -6);
        check.due("bring(0, 0, 21)", x.bring(0, 0, 21), -6);
        check.due("refused: nothing changes", x.brought(0, 2), 44);
        x.set(0, 2, 0);
        check.due("bring, AWAY", x.bring(0, 10, 0), -3);
        check.due("bring(0, -1, 0), AWAY", x.bring(0, -1, 0), -3);
        // A house that went away behind bringing has its cords yet.
        check.due("small, AWAY", x.small(0, 0, 0), 0);
        x.set(0, 2, 1);
        check.due("bring, cords laid", x.bring(0, 50, 0), -3);
        x.close();
        check.due("bring, next year", x.bring(0, 50, 0), 5);
        x.house(0, 1);
        x.bring(1, 50, 0);
        x.small(1, 1, 0);
        check.due("bring, one cord laid", x.bring(0, 50, 0), -3);
    }

    private static void brought() {
        GrassBridge x = new GrassBridge();
        x.house(0, 1);
        x.house(0, 1);
        x.house(3, 1);
        x.bring(0, 5, 20);
        x.bring(1, 100, 7);
        x.bring(2, 31, 1);
        check.due("brought(0, 0)", x.brought(0, 0), 93);
        check.due("brought(0, 1)", x.brought(0, 1), 105);
        check.due("brought(0, 2)", x.brought(0, 2), 132);
        check.due("brought(3, 0)", x.brought(3, 0), 30);
        check.due("brought(1, 2)", x.brought(1, 2), 0);
        check.due("brought(-1, 0)", x.brought(-1, 0), 123);
        check.due("brought(-1, 1)", x.brought(-1, 1), 136);
        check.due("brought(-1, 2)", x.brought(-1, 2), 164);
        x.set(1, 2, 0);
        check.due("brought(0, 1), one AWAY", x.brought(0, 1), 105);
        check.due("brought(-2, 0)", x.brought(-2, 0), -1);
        check.due("brought(4, 9)", x.brought(4, 9), -1);
        check.due("brought(0, -1)", x.brought(0, -1), -2);
        check.due("brought(-1, 3)", x.brought(-1, 3), -2);
        x.close();
        check.due("brought(-1, 2), next year", x.brought(-1, 2), 0);
    }

    private static void ask() {
        GrassBridge x = new GrassBridge();
        check.due("ask(10000)", x.ask(10000), 0);
        check.due("ask(10001)", x.ask(10001), -6);
        check.due("ask(-1)", x.ask(-1), -4);
        check.due("ask(3)", x.ask(3), 10000);
        x.close();
        check.due("closing leaves ASKED", x.ask(0), 3);
        check.due("ask(0)", x.ask(0), 0);
    }

    private static void shares(String when, GrassBridge x, int... want) {
        for (int i = 0; i < want.length; i++) {
            check.due(when + ": share(" + i + ")", x.share(i), want[i]);
        }
    }

    private static void share() {
        GrassBridge x = new GrassBridge();
        check.due("share(0), no house", x.share(0), -1);
        for (int i = 0; i < 4; i++) {
            x.house(i, 1);
        }
        shares("nothing asked", x, 0, 0, 0, 0);
        x.ask(7);
        shares("7 of four", x, 2, 2, 2, 1);
        x.set(1, 2, 0);
        shares("one AWAY", x, 3, 0, 2, 2);
        x.set(1, 2, 1);
        x.bring(0, 3, 0);
        x.bring(3, 1, 0);
        x.close();
        // OWED: -1, 2, 2, 0
        shares("by OWED", x, 1, 2, 2, 2);
        x.ask(5);
        shares("one is left over", x, 1, 2, 1, 1);
        x.ask(6);
        shares("two are left over", x, 1, 2, 2, 1);
        check.due("share(4)", x.share(4), -1);
        check.due("share(-1)", x.share(-1), -1);
        GrassBridge one = new GrassBridge();
        one.house(0, 1);
        one.ask(9999);
        shares("one of one hand", one, 9999);
        GrassBridge away = new GrassBridge();
        away.house(0, 4);
        away.ask(10);
        away.set(0, 2, 0);
        shares("all AWAY", away, 0);
        wholeIsAsked();
    }

    private static void wholeIsAsked() {
        Check.Dice dice = new Check.Dice(3);
        for (int run = 0; run < 200; run++) {
            GrassBridge x = new GrassBridge();
            int houses = 1 + dice.below(24);
            for (int i = 0; i < houses; i++) {
                x.house(dice.below(4), 1 + dice.below(9));
                x.bring(i, dice.below(30), 0);
            }
            x.ask(dice.below(100));
            x.close();
            x.set(dice.below(houses), 2, 0);
            int asked = dice.below(10001);
            x.ask(asked);
            int sum = 0;
            for (int i = 0; i < houses; i++) {
                sum += x.share(i);
            }
            check.due("all shares, run " + run, sum, x.count(4) == 0 ? 0 : asked);
        }
    }

    private static void owed() {
        GrassBridge x = new GrassBridge();
        check.due("owed(0), no house", x.owed(0), 1000000001);
        x.house(0, 2);
        x.house(1, 1);
        x.ask(31);
        x.bring(0, 15, 20);
        check.due("owed(0), year not closed", x.owed(0), 0);
        x.close();
        // Shares 21 (one left over) and 10.
        check.due("owed(0)", x.owed(0), 6);
        check.due("owed(1)", x.owed(1), 10);
        x.set(1, 2, 0);
        x.close();
        check.due("owed(0), alone HERE", x.owed(0), 37);
        check.due("owed(1), AWAY", x.owed(1), 10);
        x.set(1, 2, 1);
        x.bring(1, 100, 0);
        x.set(1, 2, 0);
        x.close();
        check.due("owed(1), AWAY behind bringing", x.owed(1), -90);
        check.due("owed(2)", x.owed(2), 1000000001);
        check.due("owed(-1)", x.owed(-1), 1000000001);
        settlesAtOnce();
    }

    /** The shares of a year hang on OWED as it was before closing began to change it. */
    private static void settlesAtOnce() {
        GrassBridge x = new GrassBridge();
        x.house(0, 1);
        x.house(0, 1);
        x.ask(1);
        x.bring(0, 5, 0);
        x.close();
        // -4 and 0: now the second one has the odd fathom.
        check.due("owed(0)", x.owed(0), -4);
        x.bring(1, 9, 0);
        x.close();
        // -4 and -8
        check.due("owed(1)", x.owed(1), -8);
        x.bring(0, 9, 0);
        x.close();
        // The first has it: -4 + 1 - 9, and the second nothing.
        check.due("owed(0)", x.owed(0), -12);
        check.due("owed(1)", x.owed(1), -8);
    }

    private static void ordersOfRefusals() {
        GrassBridge x = new GrassBridge();
        x.house(0, 1);
        check.due("set: house before what", x.set(5, 7, -7), -1);
        check.due("set: what before v", x.set(0, 7, -7), -2);
        check.due("bring: house before v", x.bring(5, -7, -7), -1);
        check.due("brought: village before what", x.brought(9, 9), -1);
        check.due("count(11)", x.count(11), 3);
        check.due("count(12)", x.count(12), 1);
    }
}
