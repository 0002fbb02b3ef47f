import java.util.ArrayList;
import java.util.List;

/**
 * Two objects made alike, of which one is told a call that it refuses: all else that they answer
 * must be the same. An object answers as promised for 512 calls alone, so each is made anew for
 * every hundred and fifty questions; making one may take some 350 calls.
 */
final class Twins {
    private static final int MOST_QUESTIONS = 150;
    private static final int AS_TOLD = 1000000000;

    interface Made {
        GrassBridge bridge();
    }

    interface Ask {
        long of(GrassBridge x);
    }

    interface AskWith {
        long of(GrassBridge x, int v);
    }

    private final Check check;

    Twins(Check check) {
        this.check = check;
    }

    /** The call answers that number, it is counted under it alone, and nothing else has changed. */
    void refused(String call, Made made, Ask ask, int number) {
        refused(call, made, ask, number, number);
    }

    /** The same of a call whose answers may be below 0. */
    void refusedAsTold(String call, Made made, Ask ask, int number) {
        refused(call, made, ask, number, AS_TOLD - number);
    }

    private void refused(String call, Made made, Ask ask, int number, int answer) {
        int[] before = refusals(made.bridge());
        GrassBridge told = made.bridge();
        check.due(call, ask.of(told), answer);
        int[] behind = refusals(told);
        for (int n = 1; n <= 6; n++) {
            check.due(call + ": refusals of -" + n, behind[n], before[n] + (n == -number ? 1 : 0));
        }
        Made refused = () -> {
            GrassBridge x = made.bridge();
            ask.of(x);
            return x;
        };
        check.due(call + ": nothing else changes", state(refused), state(made));
    }

    /** No refusal is counted by the call. */
    void taken(String call, Made made, Ask ask) {
        int[] before = refusals(made.bridge());
        GrassBridge told = made.bridge();
        long answer = ask.of(told);
        int[] behind = refusals(told);
        for (int n = 1; n <= 6; n++) {
            check.due(call + " (" + answer + "): refusals of -" + n, behind[n], before[n]);
        }
    }

    /** A number from least to greatest is taken, one outside refused, at the edges and far off. */
    void range(String call, Made made, int least, int greatest, AskWith ask, int below, int above) {
        taken(call + " of " + least, made, x -> ask.of(x, least));
        taken(call + " of " + greatest, made, x -> ask.of(x, greatest));
        refused(call + " of " + (least - 1), made, x -> ask.of(x, least - 1), below);
        refused(call + " of " + (greatest + 1), made, x -> ask.of(x, greatest + 1), above);
        for (int v : Check.FAR_BELOW) {
            refused(call + " of " + v, made, x -> ask.of(x, v), below);
        }
        for (int v : Check.FAR_ABOVE) {
            refused(call + " of " + v, made, x -> ask.of(x, v), above);
        }
    }

    private static int[] refusals(GrassBridge x) {
        int[] counts = new int[7];
        for (int n = 1; n <= 6; n++) {
            counts[n] = x.count(10 + n);
        }
        return counts;
    }

    /** All answers that tell how an object stands, the refusals that it counted left out. */
    static String state(Made made) {
        GrassBridge seen = made.bridge();
        int houses = seen.count(2);
        int ropes = seen.count(3);
        int broken = seen.count(5);
        int steps = seen.count(6);
        int people = seen.count(7);
        List<Ask> quiet = new ArrayList<>();
        askYear(quiet, houses);
        askRopes(quiet, ropes, houses);
        askBridge(quiet, broken, houses);
        askWork(quiet, steps);
        StringBuilder all = new StringBuilder();
        for (int from = 0; from < quiet.size(); from += MOST_QUESTIONS) {
            answer(all, made, quiet.subList(from, Math.min(quiet.size(), from + MOST_QUESTIONS)));
        }
        answer(all.append(" | told "), made, asksOfWhatWasTold(people));
        answer(all.append(" | houses "), made, asksOfHouses(houses));
        answer(all.append(" | next "), made, asksOfWhatComes(houses));
        return all.toString();
    }

    private static void answer(StringBuilder all, Made made, List<Ask> asks) {
        GrassBridge x = made.bridge();
        for (Ask ask : asks) {
            all.append(ask.of(x)).append(' ');
        }
    }

    private static void askYear(List<Ask> asks, int houses) {
        for (int i = 0; i <= 7; i++) {
            int what = i;
            asks.add(x -> x.count(what));
        }
        for (int i = 0; i < 52; i++) {
            int week = i;
            asks.add(x -> x.rainOf(week));
        }
        for (int i = 0; i < 15; i++) {
            int village = i / 3 - 1;
            int what = i % 3;
            asks.add(x -> x.brought(village, what));
        }
        for (int i = 0; i < houses; i++) {
            int house = i;
            asks.add(x -> x.share(house));
            asks.add(x -> x.owed(house));
        }
    }

    private static void askRopes(List<Ask> asks, int ropes, int houses) {
        for (int i = 0; i < ropes; i++) {
            int rope = i;
            for (int j = 0; j < 5; j++) {
                int what = j;
                asks.add(x -> x.ropeOf(rope, what));
            }
            for (int j = 0; j < houses; j++) {
                int house = j;
                asks.add(x -> x.strands(rope, house));
            }
        }
    }

    private static void askBridge(List<Ask> asks, int broken, int houses) {
        for (int i = 0; i < 6; i++) {
            int place = i;
            asks.add(x -> x.strength(place));
        }
        asks.add(GrassBridge::bears);
        int[] loads = {0, 1, 700, 2000};
        for (int load : loads) {
            asks.add(x -> x.load(load));
            asks.add(x -> x.till(load));
        }
        for (int i = 0; i < broken; i++) {
            int at = i;
            asks.add(x -> x.broken(at, 0));
            asks.add(x -> x.broken(at, 1));
            asks.add(x -> x.broken(at, 2));
            for (int j = 0; j < houses; j++) {
                int house = j;
                asks.add(x -> x.blame(at, house));
            }
        }
        asks.add(GrassBridge::master);
    }

    private static void askWork(List<Ask> asks, int steps) {
        if (steps > 8) {
            return;
        }
        asks.add(GrassBridge::plan);
        for (int i = 0; i < steps; i++) {
            int k = i;
            asks.add(x -> x.planAt(k));
        }
    }

    /** What stood is told by what becomes something else. */
    private static List<Ask> asksOfWhatWasTold(int people) {
        List<Ask> asks = new ArrayList<>();
        for (int i = 0; i < 52; i++) {
            int week = i;
            asks.add(x -> x.rain(week, -1));
        }
        for (int i = 0; i < 6; i++) {
            int place = i;
            asks.add(x -> x.tension(place, 50));
        }
        for (int i = 0; i < people; i++) {
            int person = i;
            asks.add(x -> x.alive(person, true));
        }
        asks.add(x -> x.ask(0));
        return asks;
    }

    private static List<Ask> asksOfHouses(int houses) {
        List<Ask> asks = new ArrayList<>();
        for (int i = 0; i < houses; i++) {
            int house = i;
            asks.add(x -> x.set(house, 0, 1));
            asks.add(x -> x.set(house, 1, 1));
            asks.add(x -> x.set(house, 2, 1));
        }
        return asks;
    }

    /** Wet that is not yet a whole one by 3, cords left, and what each house brought show later. */
    private static List<Ask> asksOfWhatComes(int houses) {
        List<Ask> asks = new ArrayList<>();
        for (int i = 0; i < houses; i++) {
            int house = i;
            asks.add(x -> x.small(house, house, house));
        }
        for (int i = 0; i < 3; i++) {
            asks.add(x -> x.weeks(1));
            for (int j = 0; j < 6; j++) {
                int place = j;
                asks.add(x -> x.strength(place));
            }
        }
        asks.add(GrassBridge::close);
        for (int i = 0; i < houses; i++) {
            int house = i;
            asks.add(x -> x.owed(house));
        }
        asks.add(GrassBridge::clear);
        return asks;
    }
}
