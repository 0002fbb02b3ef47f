import java.util.ArrayList;
import java.util.List;

/**
 * Any calls with any arguments: none throws, and an object that is told them all answers and stands
 * as one that is told the same without those that were refused; the refusals are counted.
 */
public final class AnyCallsTest {
    private static final int CALLS = 240;
    private static final int[] EDGES = {Integer.MIN_VALUE, Integer.MAX_VALUE, Integer.MIN_VALUE + 1,
        Integer.MAX_VALUE - 1, -1000000000, -101, -100, -61, -60, -9, -6, -4, -3, -2, -1, 0, 1, 2, 3, 4,
        5, 6, 7, 8, 9, 10, 11, 12, 13, 16, 20, 21, 23, 24, 29, 30, 40, 51, 52, 53, 59, 60, 61, 99, 100,
        199, 200, 599, 600, 2000, 2001, 4095, 4096, 10000, 10001};
    private static final int RAIN = 0;
    private static final int OWED = 9;
    private static final Check check = new Check();
    private static final Check.Dice dice = new Check.Dice(7);

    public static void main(String[] args) {
        for (int run = 0; run < 300; run++) {
            anyRun(run);
        }
        check.end();
    }

    private static void anyRun(int run) {
        int hung = run % 2 == 0 ? -1 : dice.below(64);
        int hands = 1 + dice.below(9);
        List<int[]> all = new ArrayList<>();
        List<int[]> taken = new ArrayList<>();
        List<Integer> answers = new ArrayList<>();
        int[] refusals = new int[7];
        GrassBridge x = start(hung, hands);
        for (int i = 0; i < CALLS; i++) {
            int[] row = {dice.below(34), number(), number(), number(), number(), number()};
            all.add(row);
            int answer = call(x, row);
            int number = row[0] == RAIN || row[0] == OWED ? 1000000000 - answer : answer;
            if (number < 0 && number >= -6) {
                refusals[-number]++;
            } else {
                taken.add(row);
                answers.add(answer);
            }
        }
        for (int n = 1; n <= 6; n++) {
            check.due("run " + run + ": count(" + (10 + n) + ")", x.count(10 + n), refusals[n]);
        }
        GrassBridge y = start(hung, hands);
        for (int i = 0; i < taken.size(); i++) {
            check.due("run " + run + ": without the refused, kind " + taken.get(i)[0], call(y, taken.get(i)),
                    answers.get(i));
        }
        check.due("run " + run, Twins.state(() -> played(hung, hands, all)),
                Twins.state(() -> played(hung, hands, taken)));
    }

    private static GrassBridge start(int hung, int hands) {
        return hung < 0 ? new GrassBridge() : Check.hung(hung, hands);
    }

    private static GrassBridge played(int hung, int hands, List<int[]> rows) {
        GrassBridge x = start(hung, hands);
        for (int[] row : rows) {
            call(x, row);
        }
        return x;
    }

    /** Mostly small numbers, so that many calls are let. */
    private static int number() {
        int side = dice.below(10);
        return side < 7 ? dice.below(1 + dice.below(30)) : side < 9 ? EDGES[dice.below(EDGES.length)]
                : dice.below(4000) - 1000;
    }

    private static int call(GrassBridge x, int[] row) {
        int a = row[1];
        int b = row[2];
        int c = row[3];
        int d = row[4];
        int e = row[5];
        switch (row[0]) {
            case RAIN: return x.rain(a, b);
            case 1: return x.rainOf(a);
            case 2: return x.house(a % 5, b);
            case 3: return x.set(a, b % 4, c);
            case 4: return x.bring(a, b < 30 ? 70 * b : b, c);
            case 5: return x.brought(a, b);
            case 6: return x.ask(a);
            case 7: return x.share(a);
            case 8: return d < 2 ? x.close() : x.bears();
            case OWED: return x.owed(a);
            case 10: return x.small(a, b, c);
            case 11: return x.lay(a, b, c);
            case 12: return x.hang(a, b);
            case 13: return x.cut(a);
            case 14: return x.tension(a, b);
            case 15: return x.strength(a);
            case 16: return x.bears();
            case 17: return x.load(a);
            case 18: return x.weeks(a);
            case 19: return x.till(a);
            case 20: return x.broken(a, b);
            case 21: return x.blame(a, b);
            case 22: return x.strands(a, b);
            case 23: return x.step(a % 4, b, c, d, e);
            case 24: return x.step(2, b, 1 + c % 9, 1 + d % 9, 0);
            case 25: return d < 5 ? x.clear() : x.bears();
            case 26: return x.plan();
            case 27: return x.planAt(a);
            case 28: return x.person(a, b);
            case 29: return x.alive(a, b > 3);
            case 30: return x.master();
            case 31: return x.ropeOf(a, b);
            case 32: return x.count(a) < 0 ? -9 : 0;
            default: return x.person(-1, b);
        }
    }
}
