import java.lang.reflect.Method;
import java.lang.reflect.Modifier;
import java.util.ArrayList;
import java.util.Arrays;
import java.util.HashMap;
import java.util.List;
import java.util.Map;
import java.util.TreeMap;

/**
 * The class beside the document written down a second time (Plain): the same 512 calls are told to
 * both, and each answer is compared. Most calls fit how things stand, some have a number at an edge.
 */
public final class SecondReadingTest {
    private static final int CALLS = 512;
    private static final int RUNS_OF_A_THEME = 120;
    private static final int[] EDGES = {Integer.MIN_VALUE, Integer.MAX_VALUE, -61, -60, -10, -9, -2, -1, 0, 1, 2,
        3, 4, 5, 6, 8, 9, 10, 11, 12, 13, 16, 20, 21, 23, 24, 29, 30, 39, 40, 50, 51, 52, 53, 59, 60, 61, 99,
        100, 199, 200, 599, 600, 1480, 2000, 2001, 4095, 4096, 10000, 10001};
    private static final Check check = new Check();
    private static final Check.Dice dice = new Check.Dice(2026);
    private static final Map<String, Method> OF_CLASS = callsOf(GrassBridge.class);
    private static final Map<String, Method> OF_PLAIN = callsOf(Plain.class);
    /** How often each call was told, and how often it was not refused. */
    private static final Map<String, int[]> seen = new HashMap<>();

    private final String run;
    private final GrassBridge bridge = new GrassBridge();
    private final Plain plain = new Plain();
    private int told;
    private int houses;
    private int people;
    private int steps;
    private final List<List<Integer>> leftOver = List.of(new ArrayList<>(), new ArrayList<>(), new ArrayList<>());

    private SecondReadingTest(String run) {
        this.run = run;
    }

    public static void main(String[] args) throws Exception {
        check.due("calls of both", OF_PLAIN.keySet().toString(), OF_CLASS.keySet().toString());
        check.due("calls", OF_CLASS.size(), 32);
        for (int i = 0; i < RUNS_OF_A_THEME; i++) {
            new SecondReadingTest("years " + i).years();
            new SecondReadingTest("ropes " + i).ropes();
            new SecondReadingTest("work " + i).work();
            new SecondReadingTest("people " + i).people();
            new SecondReadingTest("all " + i).all();
        }
        for (String name : OF_CLASS.keySet()) {
            int[] counts = seen.getOrDefault(name, new int[2]);
            check.due(name + " was told and let often: " + Arrays.toString(counts), counts[1] > 200 ? 1 : 0, 1);
        }
        check.end();
    }

    private static Map<String, Method> callsOf(Class<?> of) {
        Map<String, Method> calls = new TreeMap<>();
        for (Method call : of.getDeclaredMethods()) {
            if (Modifier.isPublic(call.getModifiers())) {
                call.setAccessible(true);
                calls.put(call.getName(), call);
            }
        }
        return calls;
    }

    private boolean goesOn() {
        return told < CALLS;
    }

    /** Tells both the call and compares; of numbers one in forty is put at an edge. */
    private int tell(String name, Object... args) throws Exception {
        for (int i = 0; i < args.length; i++) {
            if (args[i] instanceof Integer && dice.below(40) == 0) {
                args[i] = EDGES[dice.below(EDGES.length)];
            }
        }
        return tellAsItIs(name, args);
    }

    private int tellAsItIs(String name, Object... args) throws Exception {
        if (!goesOn()) {
            return -1;
        }
        told++;
        int got = (Integer) OF_CLASS.get(name).invoke(bridge, args);
        int want = (Integer) OF_PLAIN.get(name).invoke(plain, args);
        check.due(run + ", call " + told + ": " + name + Arrays.toString(args), got, want);
        int[] counts = seen.computeIfAbsent(name, n -> new int[2]);
        counts[0]++;
        boolean refused = want > -7 && want < 0 && !name.equals("owed") && !name.equals("rain") || want > 900000000;
        counts[1] += refused ? 0 : 1;
        return got;
    }

    private int house() {
        return houses == 0 ? 0 : dice.below(houses + (dice.below(20) == 0 ? 1 : 0));
    }

    private void found(int count) throws Exception {
        if (houses == 0) {
            houses += tellAsItIs("house", dice.below(4), 1 + dice.below(9)) + 1;
        }
        for (int i = 1; i < count; i++) {
            houses += tell("house", dice.below(4), 1 + dice.below(9)) >= 0 ? 1 : 0;
        }
    }

    private void years() throws Exception {
        found(1 + dice.below(10));
        while (goesOn()) {
            switch (dice.below(12)) {
                case 0: found(2); break;
                case 1: setSomething(); break;
                case 2: tell("ask", dice.below(dice.below(2) == 0 ? 60 : 10001)); break;
                case 3: tell("close"); break;
                case 4: tell("brought", dice.below(5) - 1, dice.below(3)); break;
                case 5: rain(); break;
                case 6: allShares(); break;
                case 7: tell("small", house(), house(), house()); break;
                case 8: look(); break;
                default: tell("bring", house(), dice.below(dice.below(2) == 0 ? 25 : 2001), dice.below(21));
            }
        }
    }

    private void allShares() throws Exception {
        for (int i = 0; i < houses; i++) {
            tellAsItIs("share", i);
            tellAsItIs("owed", i);
        }
    }

    private void setSomething() throws Exception {
        int what = dice.below(3);
        tell("set", house(), what, what == 2 ? dice.below(3) % 2 : 1 + dice.below(9));
    }

    private void rain() throws Exception {
        int week = dice.below(52);
        tell("rain", week, dice.below(11) - 1);
        tell("rainOf", dice.below(4) == 0 ? dice.below(52) : week / 13 * 13 + dice.below(13));
    }

    private void bringAll() throws Exception {
        for (int i = 0; i < houses; i++) {
            tellAsItIs("bring", i, dice.below(3) == 0 ? dice.below(2001) : 2000, dice.below(21));
        }
    }

    /** A rope of a kind, of free ones that are laid for it or were left over; below 0 if refused. */
    private int rope(int kind) throws Exception {
        if (kind == 0) {
            int house = dice.below(houses);
            return tellAsItIs("small", house, dice.below(4) == 0 ? dice.below(houses) : house, house());
        }
        int[] parts = new int[3];
        for (int i = 0; i < 3; i++) {
            parts[i] = dice.below(40) == 0 ? dice.below(40) : taken(kind - 1);
            if (parts[i] < 0) {
                return -1;
            }
        }
        return tellAsItIs("lay", parts[0], parts[1], parts[2]);
    }

    private int taken(int kind) throws Exception {
        List<Integer> kept = leftOver.get(kind);
        if (!kept.isEmpty() && dice.below(4) == 0) {
            return kept.remove(dice.below(kept.size()));
        }
        int number = rope(kind);
        if (number < 0) {
            number = rope(kind);
        }
        if (number >= 0 && dice.below(15) == 0) {
            kept.add(number);
        }
        return number;
    }

    /** Great ropes hung at places that seem empty, of houses of little care, so that some break. */
    private void weave(int great) throws Exception {
        for (int i = 0; i < great && goesOn(); i++) {
            if (dice.below(2) == 0) {
                tell("set", house(), 1, 1 + dice.below(1 + dice.below(6)));
            }
            int place = dice.below(6);
            for (int turn = 0; turn < 6 && tellAsItIs("strength", place) != 0; turn++) {
                place = (place + 1) % 6;
            }
            tell("hang", taken(2), place);
        }
    }

    private void ropes() throws Exception {
        found(1 + dice.below(4));
        bringAll();
        weave(3 + dice.below(6));
        while (goesOn()) {
            switch (dice.below(16)) {
                case 0: if (dice.below(4) == 0) setSomething(); break;
                case 1: case 2: rain(); break;
                case 3: tell("weeks", 1 + dice.below(1 + dice.below(12))); break;
                case 4: if (dice.below(3) == 0) tell("close"); break;
                case 5: if (dice.below(3) == 0) bringAll(); break;
                case 6: if (dice.below(3) == 0) weave(1 + dice.below(3)); break;
                case 7: if (dice.below(3) == 0) tell("cut", dice.below(6)); break;
                case 8: case 9: tell("tension", dice.below(6), dice.below(100)); break;
                case 10: case 11: loads(); break;
                case 12: if (dice.below(5) == 0) blames(); break;
                default: look();
            }
        }
    }

    private void blames() throws Exception {
        int broken = tellAsItIs("count", 5);
        for (int i = 0; i < broken; i++) {
            tell("broken", i, dice.below(3));
            tell("blame", i, house());
            tell("blame", i, house());
        }
    }

    private void loads() throws Exception {
        int bears = tellAsItIs("bears");
        int[] some = {bears, bears + 1, Math.max(0, bears - dice.below(80)), dice.below(2001)};
        for (int load : some) {
            tell("load", load);
            tell("till", load);
        }
    }

    /** Calls that change nothing but the count of refusals. */
    private void look() throws Exception {
        int ropes = Math.max(1, tellAsItIs("count", 3));
        switch (dice.below(9)) {
            case 0: tell("strands", dice.below(ropes), house()); break;
            case 1: tell("ropeOf", dice.below(ropes), dice.below(5)); break;
            case 2: tell("broken", dice.below(4), dice.below(3)); break;
            case 3: tell("blame", dice.below(1 + dice.below(4)), house()); break;
            case 4: tell("strength", dice.below(6)); break;
            case 5: tell("bears"); break;
            case 6: tell("rainOf", dice.below(52)); break;
            case 7: tell("master"); break;
            default: tell("count", dice.below(18));
        }
    }

    /** Steps told and forgotten, plans asked, on a bridge where some ropes hang and some are cut. */
    private void work() throws Exception {
        found(1 + dice.below(3));
        bringAll();
        weave(dice.below(6));
        while (goesOn()) {
            int kind = dice.below(3);
            int place = dice.below(6);
            int most = dice.below(12) == 0 ? 12 : 5;
            if (steps >= most || dice.below(6) == 0) {
                askPlan();
                steps -= tell("clear");
            }
            int arg = kind == 2 ? 100 * place + dice.below(100) : place;
            int after = dice.below(3) == 0 && steps > 0 ? dice.below(1 << steps) & dice.below(1 << steps) : 0;
            steps += tell("step", kind, arg, 1 + dice.below(9), 1 + dice.below(8), after) >= 0 ? 1 : 0;
            if (dice.below(25) == 0) {
                setSomething();
            }
            if (dice.below(30) == 0) {
                tell("cut", dice.below(6));
            }
        }
    }

    private void askPlan() throws Exception {
        tell("plan");
        for (int k = 0; k < steps && steps < 8; k++) {
            tell("planAt", k);
        }
        tell("planAt", dice.below(9));
    }

    private void people() throws Exception {
        while (goesOn()) {
            switch (dice.below(7)) {
                case 0: case 1:
                    int parent = dice.below(people + 1) - 1;
                    people += tell("person", parent, dice.below(dice.below(2) == 0 ? 121 : 50) - 60) >= 0 ? 1 : 0;
                    break;
                case 2: case 3: tell("alive", dice.below(people + 1), dice.below(3) == 0); break;
                case 4: if (dice.below(4) == 0) tell("close"); break;
                default: tell("master");
            }
        }
    }

    /** Any call, with any small numbers. */
    private void all() throws Exception {
        List<String> names = new ArrayList<>(OF_CLASS.keySet());
        found(1 + dice.below(24));
        bringAll();
        if (dice.below(2) == 0) {
            weave(1 + dice.below(3));
        }
        while (goesOn()) {
            Method call = OF_CLASS.get(names.get(dice.below(names.size())));
            Object[] args = new Object[call.getParameterCount()];
            for (int i = 0; i < args.length; i++) {
                boolean flag = call.getParameterTypes()[i] == boolean.class;
                args[i] = flag ? (Object) (dice.below(2) == 0) : (Object) dice.below(1 + dice.below(60));
            }
            tell(call.getName(), args);
        }
    }
}
