/** Promises 25 to 28: steps, and the best plan against all rows tried one by one. */
public final class PlanTest {
    private static final Check check = new Check();

    public static void main(String[] args) {
        step();
        clear();
        none();
        stand();
        cuts();
        groups();
        firstByNumbers();
        asTheBridgeIs();
        tooMany();
        allRowsTried();
        check.end();
    }

    private static void step() {
        GrassBridge x = new GrassBridge();
        check.due("step(-1, 9, 0, 0, 9)", x.step(-1, 9, 0, 0, 9), -2);
        check.due("step(3, 0, 1, 1, 0)", x.step(3, 0, 1, 1, 0), -2);
        check.due("step(0, 6, 0, 1, 0)", x.step(0, 6, 0, 1, 0), -1);
        check.due("step(1, -1, 1, 1, 0)", x.step(1, -1, 1, 1, 0), -1);
        check.due("step(2, 600, 1, 1, 0)", x.step(2, 600, 1, 1, 0), -1);
        check.due("step(2, -1, 1, 1, 0)", x.step(2, -1, 1, 1, 0), -1);
        check.due("step(2, -100, 1, 1, 0)", x.step(2, -100, 1, 1, 0), -1);
        check.due("step(0, 0, 1, 1, 1)", x.step(0, 0, 1, 1, 1), -1);
        check.due("step(0, 0, 1, 1, -1)", x.step(0, 0, 1, 1, -1), -1);
        check.due("step(0, 0, 0, 61, 0)", x.step(0, 0, 0, 61, 0), -4);
        check.due("step(0, 0, 10, 0, 0)", x.step(0, 0, 10, 0, 0), -4);
        check.due("step(0, 0, 10, 1, 0)", x.step(0, 0, 10, 1, 0), -6);
        check.due("step(0, 0, 1, 61, 0)", x.step(0, 0, 1, 61, 0), -6);
        check.due("count(6)", x.count(6), 0);
        check.due("step(2, 599, 9, 60, 0)", x.step(2, 599, 9, 60, 0), 0);
        check.due("step(2, 0, 1, 1, 1)", x.step(2, 0, 1, 1, 1), 1);
        check.due("step(1, 5, 1, 1, 3)", x.step(1, 5, 1, 1, 3), 2);
        check.due("step(1, 5, 1, 1, 8)", x.step(1, 5, 1, 1, 8), -1);
        check.due("step(1, 5, 1, 1, -2147483648)", x.step(1, 5, 1, 1, Integer.MIN_VALUE), -1);
        for (int i = 3; i < 12; i++) {
            check.due("step " + i, x.step(0, 5, 1, 1, (1 << i) - 1), i);
        }
        check.due("step 12", x.step(0, 5, 1, 1, 4095), -6);
        check.due("step 12, no day", x.step(0, 5, 0, 1, 4095), -4);
        check.due("step 12, behind itself", x.step(0, 5, 1, 1, 4096), -1);
        check.due("count(6)", x.count(6), 12);
        x.close();
        check.due("closing leaves the steps", x.count(6), 12);
    }

    private static void clear() {
        GrassBridge x = new GrassBridge();
        x.house(0, 9);
        x.step(0, 0, 3, 1, 0);
        x.step(0, 1, 4, 1, 0);
        check.due("plan()", x.plan(), 7);
        check.due("clear()", x.clear(), 2);
        check.due("clear()", x.clear(), 0);
        check.due("count(6)", x.count(6), 0);
        check.due("plan()", x.plan(), 0);
        check.due("planAt(0)", x.planAt(0), -9);
        check.due("step, anew", x.step(0, 0, 1, 1, 1), -1);
        check.due("step, anew", x.step(0, 0, 1, 1, 0), 0);
        check.due("planAt(0)", x.planAt(0), 0);
    }

    private static void row(String when, GrassBridge x, int days, int... want) {
        check.due(when + ": plan()", x.plan(), days);
        for (int k = 0; k < want.length; k++) {
            check.due(when + ": planAt(" + k + ")", x.planAt(k), want[k]);
        }
        check.due(when + ": planAt(-1)", x.planAt(-1), -9);
        check.due(when + ": planAt behind the last", x.planAt(want.length), -9);
        check.due(when + ": planAt(2147483647)", x.planAt(Integer.MAX_VALUE), -9);
    }

    private static void none() {
        GrassBridge x = new GrassBridge();
        x.step(0, 0, 1, 1, 0);
        row("no hands", x, -9);
        x.house(0, 9);
        row("hands", x, 1, 0);
        x.set(0, 2, 0);
        row("AWAY", x, -9);
        x.set(0, 2, 1);
        x.step(0, 1, 1, 10, 0);
        row("10 hands of 9", x, -9);
        x.house(0, 1);
        row("10 hands of 10", x, 2, 0, 1);
        x.step(0, 1, 1, 1, 0);
        row("a place twice", x, -9);
    }

    private static void stand() {
        GrassBridge x = new GrassBridge();
        x.house(0, 9);
        x.step(0, 4, 1, 1, 0);
        x.step(0, 0, 1, 1, 0);
        x.step(0, 1, 1, 1, 0);
        row("a hand first: one of the first two", x, 3, 1, 2, 0);
        x.clear();
        x.step(0, 0, 1, 1, 0);
        x.step(0, 4, 1, 1, 0);
        x.step(0, 1, 1, 1, 1);
        row("hands are no floor", x, 3, 0, 2, 1);
        x.step(0, 5, 1, 1, 0);
        row("the other hand, too", x, 4, 0, 2, 1, 3);
        x.clear();
        x.step(0, 0, 1, 1, 0);
        x.step(0, 1, 1, 1, 0);
        x.step(2, 10, 1, 1, 3);
        row("its own is none of the two", x, -9);
        x.clear();
        x.step(0, 0, 1, 1, 0);
        x.step(0, 1, 1, 1, 0);
        x.step(0, 2, 1, 1, 0);
        x.step(2, 10, 1, 1, 3);
        row("two others", x, 4, 0, 1, 2, 3);
        x.clear();
        x.step(2, 410, 1, 1, 0);
        row("no rope to tune", x, -9);
        GrassBridge hung = Check.hung(0b010011, 9);
        hung.step(2, 410, 2, 1, 0);
        row("a hand is tuned above two", hung, 2, 0);
        hung.clear();
        hung.step(2, 110, 2, 1, 0);
        row("the floor is tuned above one", hung, -9);
    }

    private static void cuts() {
        GrassBridge x = Check.hung(0b000111, 9);
        x.step(1, 3, 1, 1, 0);
        row("nothing to cut", x, -9);
        x.clear();
        x.step(1, 0, 1, 1, 0);
        x.step(1, 1, 2, 1, 0);
        x.step(1, 2, 3, 1, 0);
        row("all are cut", x, 6, 0, 1, 2);
        x.clear();
        x.step(1, 0, 1, 1, 0);
        x.step(1, 1, 2, 1, 0);
        x.step(0, 3, 3, 1, 0);
        row("less than two only as the last", x, 6, 0, 2, 1);
        x.clear();
        x.step(1, 0, 1, 1, 0);
        x.step(1, 1, 2, 1, 0);
        x.step(2, 250, 3, 1, 3);
        row("tuned behind both", x, -9);
        x.clear();
        x.step(1, 0, 1, 1, 0);
        x.step(0, 0, 1, 1, 0);
        row("hung where it is empty then", x, 2, 0, 1);
        // A cut of a hand leaves less than two on the floor, too.
        GrassBridge one = Check.hung(0b010001, 9);
        one.step(1, 4, 1, 1, 0);
        one.step(0, 1, 1, 1, 0);
        row("a hand is cut above one", one, 2, 1, 0);
        one.clear();
        one.step(1, 4, 1, 1, 0);
        one.step(0, 1, 1, 1, 1);
        row("a hand must be cut above one", one, -9);
    }

    private static void groups() {
        GrassBridge x = Check.hung(0b001111, 9);
        x.step(2, 1, 3, 4, 0);
        x.step(2, 101, 5, 5, 0);
        row("9 hands of 9", x, 5, 0, 1);
        x.step(2, 201, 4, 1, 0);
        row("10 hands of 9", x, 8, 0, 1, 2);
        x.clear();
        x.step(2, 1, 3, 1, 0);
        x.step(2, 101, 5, 1, 1);
        row("one is AFTER the other", x, 8, 0, 1);
        x.clear();
        x.step(1, 3, 2, 1, 0);
        x.step(1, 2, 2, 1, 0);
        row("cuts are not grouped", x, 4, 0, 1);
        x.clear();
        x.step(2, 1, 3, 1, 0);
        x.step(2, 2, 4, 1, 0);
        row("of one place", x, 4, 0, 1);
        x.clear();
        x.step(2, 1, 5, 1, 0);
        x.step(1, 3, 1, 1, 1);
        x.step(2, 101, 5, 1, 2);
        row("a cut parts them", x, 11, 0, 1, 2);
        x.clear();
        x.step(2, 1, 9, 3, 0);
        x.step(2, 1, 1, 3, 1);
        x.step(2, 1, 1, 3, 0);
        x.step(2, 1, 9, 3, 0);
        row("the best of many groupings", x, 10, 0, 2, 3, 1);
    }

    private static void firstByNumbers() {
        GrassBridge x = Check.hung(0b001111, 9);
        x.step(1, 3, 1, 1, 0);
        x.step(2, 1, 2, 5, 0);
        x.step(2, 101, 3, 5, 0);
        x.step(2, 201, 2, 4, 0);
        x.step(2, 201, 3, 4, 0);
        // 2 with 4 and 1 with 3: each of a like length.
        row("pairs", x, 6, 0, 1, 3, 2, 4);
        x.clear();
        x.step(2, 1, 1, 9, 0);
        x.step(2, 1, 1, 9, 0);
        x.step(2, 1, 1, 9, 0);
        row("all alike", x, 3, 0, 1, 2);
    }

    private static void asTheBridgeIs() {
        GrassBridge x = Check.hung(0b000011, 9);
        x.step(1, 2, 2, 1, 0);
        row("none at 2", x, -9);
        x.bring(0, 0, 0);
        int great = Check.great(x, 0);
        x.hang(great, 2);
        row("one at 2", x, 2, 0);
        x.cut(2);
        row("cut", x, -9);
        GrassBridge old = Check.hung(0b000001, 9);
        old.step(1, 0, 1, 1, 0);
        row("it hangs", old, 1, 0);
        for (int i = 0; i < 10; i++) {
            old.close();
        }
        row("it hangs, of strength 0", old, 1, 0);
        old.weeks(1);
        row("it broke", old, -9);
        old.clear();
        old.step(0, 0, 1, 8, 0);
        row("hung anew", old, 1, 0);
        old.set(0, 0, 7);
        row("too few hands", old, -9);
    }

    private static void tooMany() {
        GrassBridge x = Check.hung(0b001110, 9);
        for (int i = 0; i < 8; i++) {
            x.step(i % 2, 0, 1, 1, (1 << i) - 1);
        }
        row("8 steps", x, 8, 0, 1, 2, 3, 4, 5, 6, 7);
        x.step(0, 0, 1, 1, 0);
        check.due("plan() of 9", x.plan(), -6);
        check.due("planAt(0) of 9", x.planAt(0), -6);
        check.due("planAt(-1) of 9", x.planAt(-1), -6);
        check.due("count(16)", x.count(16), 3);
        x.clear();
        check.due("plan() of none", x.plan(), 0);
    }

    private static void allRowsTried() {
        Check.Dice dice = new Check.Dice(1);
        int found = 0;
        for (int run = 0; run < 3000; run++) {
            int hung = run % 3 == 0 ? 0 : 3;
            for (int ropes = dice.below(6); ropes > 0; ropes--) {
                hung |= 1 << dice.below(6);
            }
            int hands = 1 + dice.below(9);
            GrassBridge x = Check.hung(hung, hands);
            Rows rows = new Rows(hung, hands);
            int count = 1 + dice.below(run % 30 == 0 ? 8 : 6);
            int[][] moves = likelyMoves(dice, hung, count);
            for (int s = 0; s < count; s++) {
                int kind = moves[s][0];
                int place = moves[s][1];
                int days = 1 + dice.below(4);
                int needed = 1 + dice.below(Math.max(1, hands * 2 / 3));
                int after = dice.below(3) == 0 ? dice.below(1 << s) & dice.below(1 << s) : 0;
                x.step(kind, kind == 2 ? 100 * place + dice.below(100) : place, days, needed, after);
                rows.tell(kind, place, days, needed, after);
            }
            rows.tryAll();
            found += rows.least >= 0 ? 1 : 0;
            check.due("run " + run + ": plan()", x.plan(), rows.least);
            for (int k = 0; k < count; k++) {
                check.due("run " + run + ": planAt(" + k + ")", x.planAt(k),
                        rows.least < 0 ? -9 : rows.best[k]);
            }
        }
        System.out.println(found + " of 3000 runs have a plan");
        check.due("enough runs have a plan", found > 1000 ? 1 : 0, 1);
    }

    /** Kinds and places that mostly fit one another in some row, which is then shuffled. */
    private static int[][] likelyMoves(Check.Dice dice, int hungAtFirst, int count) {
        int[][] moves = new int[count][];
        int hung = hungAtFirst;
        int tunes = dice.below(4);
        for (int s = 0; s < count; s++) {
            int place = dice.below(6);
            boolean hangs = (hung & 1 << place) != 0;
            int kind = !hangs ? 0 : dice.below(4) < tunes ? 2 : dice.below(3) == 0 ? 1 : 2;
            if (dice.below(20) == 0) {
                kind = dice.below(3);
            }
            if (kind != 2) {
                hung ^= 1 << place;
            }
            moves[s] = new int[] {kind, place};
        }
        for (int s = count - 1; s > 0; s--) {
            int other = dice.below(s + 1);
            int[] kept = moves[s];
            moves[s] = moves[other];
            moves[other] = kept;
        }
        return moves;
    }
}
