/** What the tests share: counting wrong answers, and calls that many of them need. */
final class Check {
    private int wrong;
    private int asked;

    void due(String call, long got, long want) {
        asked++;
        if (got != want) {
            wrong++;
            System.out.println(call + " answered " + got + ", due is " + want);
        }
    }

    void due(String call, String got, String want) {
        asked++;
        if (!got.equals(want)) {
            wrong++;
            System.out.println(call + " answered\n  " + got + ", due is\n  " + want);
        }
    }

    void end() {
        System.out.println(asked + " answers looked at, " + wrong + " wrong");
        if (wrong != 0) {
            System.exit(1);
        }
    }

    /** A middle rope of three small ones of one house's cords: its number. */
    static int middle(GrassBridge x, int house) {
        int a = x.small(house, house, house);
        int b = x.small(house, house, house);
        int c = x.small(house, house, house);
        return x.lay(a, b, c);
    }

    /** A great rope of 27 cords of one house (13 ropes, 13 calls): its number. */
    static int great(GrassBridge x, int house) {
        int a = middle(x, house);
        int b = middle(x, house);
        int c = middle(x, house);
        return x.lay(a, b, c);
    }

    /** A bridge where one house, of so many hands, hung great ropes at places (a bit each). */
    static GrassBridge hung(int places, int hands) {
        GrassBridge x = new GrassBridge();
        x.house(0, hands);
        x.bring(0, 2000, 0);
        for (int place = 0; place < 6; place++) {
            if ((places & 1 << place) != 0) {
                x.hang(great(x, 0), place);
            }
        }
        return x;
    }

    /** Numbers that look as if by chance, the same in each run. */
    static final class Dice {
        private long state;

        Dice(long seed) {
            state = seed;
        }

        int below(int n) {
            state = state * 6364136223846793005L + 1442695040888963407L;
            return (int) ((state >>> 33) % n);
        }
    }
}
