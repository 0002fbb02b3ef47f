/** What the tests share: counting wrong answers, and calls that many of them need. */
final class Check {
    /** Numbers as far from any that is let as there are. */
    static final int[] FAR_BELOW = {Integer.MIN_VALUE, Integer.MIN_VALUE + 1, -2000000000};
    static final int[] FAR_ABOVE = {Integer.MAX_VALUE, Integer.MAX_VALUE - 1, 2000000000};

    private int wrong;
    private int asked;
    private String sentence = "";

    /** The document's words that the answers from here on stand for, told with a wrong one. */
    void sentence(String words) {
        sentence = "[" + words + "] ";
    }

    void due(String call, long got, long want) {
        asked++;
        if (got != want) {
            wrong++;
            System.out.println(sentence + call + " answered " + got + ", due is " + want);
        }
    }

    void due(String call, String got, String want) {
        asked++;
        if (!got.equals(want)) {
            wrong++;
            System.out.println(sentence + call + " answered\n  " + got + ", due is\n  " + want);
        }
    }

    void end() {
        System.out.println(asked + " answers looked at, " + wrong + " wrong");
        if (wrong != 0) {
            System.exit(1);
        }
    }

    /** A middle rope of three small ones of one house's cords: its number. */
    static int middle(GrassBridge x, int house) {
        int a = x.small(house, house, house);
        int b = x.small(house, house, house);
        int c = x.small(house, house, house);
        return x.lay(a, b, c);
    }

    /** A great rope of 27 cords of one house (13 ropes, 13 calls): its number. */
    static int great(GrassBridge x, int house) {
        int a = middle(x, house);
        int b = middle(x, house);
        int c = middle(x, house);
        return x.lay(a, b, c);
    }

    /** A bridge where one house, of so many hands, hung great ropes at places (a bit each). */
    static GrassBridge hung(int places, int hands) {
        return hung(places, hands, 5);
    }

    /** The same of cords of a care: 1 gives great ropes of soundness 1, 9 of 73. */
    static GrassBridge hung(int places, int hands, int care) {
        GrassBridge x = new GrassBridge();
        x.house(0, hands);
        x.set(0, 1, care);
        x.bring(0, 2000, 0);
        for (int place = 0; place < 6; place++) {
            if ((places & 1 << place) != 0) {
                x.hang(great(x, 0), place);
            }
        }
        return x;
    }

    /** A bridge of so many houses of a hand each. */
    static GrassBridge houses(int count) {
        GrassBridge x = new GrassBridge();
        for (int i = 0; i < count; i++) {
            x.house(i % 4, 1);
        }
        return x;
    }

    /** So many years are closed. */
    static GrassBridge older(GrassBridge x, int years) {
        for (int i = 0; i < years; i++) {
            x.close();
        }
        return x;
    }

    /** Four houses of 200 cords each, and so many small ropes of three cords of one of them. */
    static GrassBridge ropes(int count) {
        GrassBridge x = houses(4);
        for (int i = 0; i < 4; i++) {
            x.bring(i, 2000, 0);
        }
        for (int i = 0; i < count; i++) {
            x.small(i / 60, i / 60, i / 60);
        }
        return x;
    }

    /** Numbers that look as if by chance, the same in each run. */
    static final class Dice {
        private long state;

        Dice(long seed) {
            state = seed;
        }

        int below(int n) {
            state = state * 6364136223846793005L + 1442695040888963407L;
            return (int) ((state >>> 33) % n);
        }
    }
}
