/** Promises 29 to 31: people and the masters by line. */
public final class PeopleTest {
    private static final Check check = new Check();

    public static void main(String[] args) {
        person();
        alive();
        ages();
        lines();
        chain();
        asTheWordsSay();
        check.end();
    }

    private static void person() {
        GrassBridge x = new GrassBridge();
        check.due("person(0, 0)", x.person(0, 0), -1);
        check.due("person(-2, -99)", x.person(-2, -99), -1);
        check.due("person(-1, -61)", x.person(-1, -61), -4);
        check.due("person(-1, 61)", x.person(-1, 61), -6);
        check.due("person(-1, -60)", x.person(-1, -60), 0);
        check.due("person(-1, 60)", x.person(-1, 60), 1);
        check.due("person(1, 59)", x.person(1, 59), -3);
        check.due("person(1, 60)", x.person(1, 60), 2);
        check.due("person(1, -61)", x.person(1, -61), -4);
        check.due("person(1, 61)", x.person(1, 61), -6);
        check.due("person(3, 60)", x.person(3, 60), -1);
        check.due("count(7)", x.count(7), 3);
        for (int i = 3; i < 30; i++) {
            check.due("person " + i, x.person(i - 2, 60), i);
        }
        check.due("person 30", x.person(-1, 0), -6);
        check.due("person 30, ahead of the parent", x.person(1, 0), -6);
        check.due("person 30, too early", x.person(-1, -61), -4);
        check.due("person 30, of nobody", x.person(30, 0), -1);
    }

    private static void alive() {
        GrassBridge x = new GrassBridge();
        x.person(-1, -20);
        check.due("alive(0, true)", x.alive(0, true), 0);
        check.due("alive(0, false)", x.alive(0, false), 1);
        check.due("alive(0, false)", x.alive(0, false), 0);
        check.due("master()", x.master(), -9);
        check.due("alive(0, true)", x.alive(0, true), 1);
        check.due("master()", x.master(), 0);
        check.due("alive(1, true)", x.alive(1, true), -1);
        check.due("alive(-1, true)", x.alive(-1, true), -1);
    }

    private static void ages() {
        GrassBridge x = new GrassBridge();
        x.person(-1, -19);
        x.person(-1, 1);
        check.due("master(), 19 years", x.master(), -9);
        x.close();
        check.due("master(), 20 years", x.master(), 0);
        x.alive(0, false);
        for (int year = 2; year <= 21; year++) {
            check.due("master() before " + year, x.master(), -9);
            x.close();
        }
        check.due("master() of 21", x.master(), 1);
    }

    private static void masters(String when, GrassBridge x, int... want) {
        for (int person : want) {
            check.due(when + ": master()", x.master(), person);
            x.alive(person, false);
        }
        check.due(when + ": master() of none", x.master(), -9);
    }

    private static void lines() {
        GrassBridge x = new GrassBridge();
        x.person(-1, -40);
        x.person(-1, -60);
        x.person(0, -30);
        x.person(0, -35);
        x.person(0, -30);
        x.person(3, -20);
        x.person(2, -25);
        x.person(1, -60);
        x.person(4, -20);
        x.person(4, -22);
        masters("lines", x, 0, 3, 5, 2, 6, 4, 9, 8, 1, 7);
    }

    private static void chain() {
        GrassBridge x = new GrassBridge();
        for (int i = 0; i < 30; i++) {
            x.person(i - 1, -60 + i);
        }
        int[] want = new int[30];
        for (int i = 0; i < 30; i++) {
            want[i] = i;
        }
        masters("chain", x, want);
    }

    /** The whole order, against one that compares two people by their lines. */
    private static void asTheWordsSay() {
        Check.Dice dice = new Check.Dice(5);
        for (int run = 0; run < 100; run++) {
            GrassBridge x = new GrassBridge();
            int count = 1 + dice.below(30);
            int[] parents = new int[count];
            int[] births = new int[count];
            for (int i = 0; i < count; i++) {
                int parent = dice.below(i + 1) - 1;
                int least = parent < 0 ? -60 : births[parent];
                parents[i] = parent;
                births[i] = Math.min(-20, least + dice.below(6));
                check.due("person", x.person(parent, births[i]), i);
            }
            boolean[] gone = new boolean[count];
            for (int turn = 0; turn < count; turn++) {
                int first = -1;
                for (int i = 0; i < count; i++) {
                    if (!gone[i] && (first < 0 || isAhead(i, first, parents, births))) {
                        first = i;
                    }
                }
                check.due("run " + run + ": master()", x.master(), first);
                gone[first] = true;
                x.alive(first, false);
            }
        }
    }

    private static boolean isAhead(int one, int other, int[] parents, int[] births) {
        for (int up = other; up >= 0; up = parents[up]) {
            if (up == one) {
                return true;
            }
        }
        for (int up = one; up >= 0; up = parents[up]) {
            if (up == other) {
                return false;
            }
        }
        for (int a = one; a >= 0; a = parents[a]) {
            for (int b = other; b >= 0; b = parents[b]) {
                if (parents[a] == parents[b]) {
                    boolean byBirth = parents[a] >= 0 && births[a] != births[b];
                    return byBirth ? births[a] < births[b] : a < b;
                }
            }
        }
        return false;
    }
}
