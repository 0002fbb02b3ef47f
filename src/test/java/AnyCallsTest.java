/**
 * Any calls with any arguments: none throws, each answer that is a refusal is counted, and a
 * refused call changes nothing else that can be asked.
 */
public final class AnyCallsTest {
    private static final int[] EDGES = {Integer.MIN_VALUE, Integer.MAX_VALUE, -1000000000, -101, -100,
        -61, -60, -9, -6, -4, -3, -2, -1, 0, 1, 2, 3, 4, 5, 6, 7, 8, 9, 10, 11, 12, 13, 16, 20, 21, 23,
        24, 29, 30, 40, 51, 52, 53, 59, 60, 61, 99, 100, 199, 200, 599, 600, 2000, 2001, 4095, 4096,
        10000, 10001};
    private static final Check check = new Check();
    private static final Check.Dice dice = new Check.Dice(7);

    public static void main(String[] args) {
        for (int run = 0; run < 150; run++) {
            anyRun(run);
        }
        check.end();
    }

    private static void anyRun(int run) {
        GrassBridge x = run % 2 == 0 ? new GrassBridge() : Check.hung(dice.below(64), 1 + dice.below(9));
        for (int i = 0; i < 400; i++) {
            int kind = dice.below(34);
            int before = refusals(x);
            String state = state(x);
            int answer = call(x, kind, number(), number(), number(), number(), number());
            int refused = refusals(x) - before;
            boolean asTold = kind == 0 || kind == 9;
            int number = asTold ? 1000000000 - answer : answer;
            boolean isRefusal = number < 0 && number >= -6 && kind != 32;
            check.due("run " + run + ", call " + i + " of kind " + kind + " refused", refused,
                    isRefusal ? 1 : 0);
            if (refused != 0) {
                check.due("run " + run + ", call " + i + " of kind " + kind, state(x), state);
            }
        }
    }

    /** Mostly small numbers, so that many calls are let. */
    private static int number() {
        int side = dice.below(10);
        return side < 7 ? dice.below(1 + dice.below(30)) : side < 9 ? EDGES[dice.below(EDGES.length)]
                : dice.below(4000) - 1000;
    }

    private static int call(GrassBridge x, int kind, int a, int b, int c, int d, int e) {
        switch (kind) {
            case 0: return x.rain(a, b);
            case 1: return x.rainOf(a);
            case 2: return x.house(a % 5, b);
            case 3: return x.set(a, b % 4, c);
            case 4: return x.bring(a, dice.below(2100), c);
            case 5: return x.brought(a, b);
            case 6: return x.ask(a);
            case 7: return x.share(a);
            case 8: return dice.below(10) == 0 ? x.close() : 0;
            case 9: return x.owed(a);
            case 10: return x.small(a, b, c);
            case 11: return x.lay(a, b, c);
            case 12: return x.hang(a, b);
            case 13: return x.cut(a);
            case 14: return x.tension(a, b);
            case 15: return x.strength(a);
            case 16: return x.bears();
            case 17: return x.load(a);
            case 18: return x.weeks(a);
            case 19: return x.till(a);
            case 20: return x.broken(a, b);
            case 21: return x.blame(a, b);
            case 22: return x.strands(a, b);
            case 23: return x.step(a % 4, b, c, d, e);
            case 24: return x.step(2, b, 1 + c % 9, 1 + d % 9, 0);
            case 25: return dice.below(4) == 0 ? x.clear() : 0;
            case 26: return x.plan();
            case 27: return x.planAt(a);
            case 28: return x.person(a, b);
            case 29: return x.alive(a, b > 3);
            case 30: return x.master();
            case 31: return x.ropeOf(a, b);
            case 32: return x.count(a) < 0 ? -9 : 0;
            default: return x.person(-1, b);
        }
    }

    private static int refusals(GrassBridge x) {
        int sum = 0;
        for (int what = 11; what <= 16; what++) {
            sum += x.count(what);
        }
        return sum;
    }

    /** All that can be asked without a refusal. */
    private static String state(GrassBridge x) {
        StringBuilder all = new StringBuilder();
        for (int what = 0; what <= 7; what++) {
            all.append(x.count(what)).append(' ');
        }
        for (int week = 0; week < 52; week++) {
            all.append(x.rainOf(week));
        }
        for (int village = -1; village < 4; village++) {
            all.append(' ').append(x.brought(village, 0)).append(' ').append(x.brought(village, 1));
            all.append(' ').append(x.brought(village, 2));
        }
        int houses = x.count(2);
        for (int house = 0; house < houses; house++) {
            all.append(' ').append(x.share(house)).append(' ').append(x.owed(house));
        }
        int ropes = x.count(3);
        for (int rope = 0; rope < ropes; rope++) {
            all.append(" rope");
            for (int what = 0; what < 5; what++) {
                all.append(' ').append(x.ropeOf(rope, what));
            }
            for (int house = 0; house < houses; house++) {
                all.append(' ').append(x.strands(rope, house));
            }
        }
        for (int place = 0; place < 6; place++) {
            all.append(' ').append(x.strength(place));
        }
        all.append(' ').append(x.bears()).append(' ').append(x.till(7)).append(' ').append(x.till(1000));
        int broken = x.count(5);
        for (int i = 0; i < broken; i++) {
            all.append(' ').append(x.broken(i, 0)).append(' ').append(x.broken(i, 1));
            all.append(' ').append(x.broken(i, 2));
            for (int house = 0; house < houses; house++) {
                all.append(' ').append(x.blame(i, house));
            }
        }
        if (x.count(6) <= 8) {
            all.append(" plan ").append(x.plan());
            for (int k = 0; k < 8; k++) {
                all.append(' ').append(x.planAt(k));
            }
        }
        return all.append(" master ").append(x.master()).toString();
    }
}
