/** The edges of STEPS, of what a PLAN may be, and of BEST PLAN, a method for each sentence. */
public final class WorkEdgesTest {
    private static final Check check = new Check();

    public static void main(String[] args) {
        twelveSteps();
        kinds();
        places();
        tensionOfStep();
        days();
        hands();
        afters();
        noSteps();
        cleared();
        emptyThen();
        ropeAtItsPlace();
        menStand();
        othersThanItsOwn();
        firstTwoLed();
        handsAreNoFloor();
        moreHandsThanHere();
        noneHere();
        cutLeavesTwo();
        cutBehindAll();
        cutOfHand();
        behindItsAfters();
        groupsOfTuning();
        groupHands();
        groupAfter();
        groupNextToOneAnother();
        groupsAsWellAsCanBe();
        firstByNumbers();
        fewestAheadOfNumbers();
        eightSteps();
        placesInPlan();
        fromTheBridgeAsItIs();
        daysAtMost();
        check.end();
    }

    /** The best plan has those days and that row, and there is nothing behind or ahead of it. */
    private static void row(String when, GrassBridge x, int days, int... want) {
        check.due(when + ": plan()", x.plan(), days);
        for (int k = 0; k < want.length; k++) {
            check.due(when + ": planAt(" + k + ")", x.planAt(k), want[k]);
        }
        int[] none = {-1, want.length, want.length + 1, Integer.MIN_VALUE, Integer.MAX_VALUE};
        for (int k : none) {
            check.due(when + ": planAt(" + k + ")", x.planAt(k), -9);
        }
    }

    private static void noRow(String when, GrassBridge x) {
        int refused = x.count(16);
        row(when, x, -9);
        check.due(when + ": -9 is no refusal", x.count(16), refused);
    }

    private static GrassBridge free() {
        return Check.hung(0, 9);
    }

    private static void twelveSteps() {
        check.sentence("IV: STEPS: 12 at most; 25: -6 (12, too)");
        GrassBridge x = free();
        for (int i = 0; i < 12; i++) {
            check.due("count(6)", x.count(6), i);
            check.due("step " + i, x.step(i % 3, i % 6, 1, 1, 0), i);
        }
        check.due("step 12", x.step(0, 0, 1, 1, 0), -6);
        check.due("count(6)", x.count(6), 12);
        check.due("clear()", x.clear(), 12);
        check.due("step 0, cleared", x.step(0, 0, 1, 1, 0), 0);
    }

    private static void kinds() {
        check.sentence("IV: each a KIND: 0, 1, 2");
        GrassBridge x = free();
        check.due("step(-1, ..)", x.step(-1, 0, 1, 1, 0), -2);
        check.due("step(3, ..)", x.step(3, 0, 1, 1, 0), -2);
        for (int kind = 0; kind < 3; kind++) {
            check.due("step(" + kind + ", ..)", x.step(kind, 0, 1, 1, 0), kind);
        }
    }

    private static void places() {
        check.sentence("25: arg the PLACE; -1 PLACE");
        GrassBridge x = free();
        for (int kind = 0; kind < 2; kind++) {
            x.clear();
            check.due("step(" + kind + ", -1, ..)", x.step(kind, -1, 1, 1, 0), -1);
            check.due("step(" + kind + ", 6, ..)", x.step(kind, 6, 1, 1, 0), -1);
            check.due("step(" + kind + ", 100, ..)", x.step(kind, 100, 1, 1, 0), -1);
            for (int place = 0; place < 6; place++) {
                check.due("step(" + kind + ", " + place + ", ..)", x.step(kind, place, 1, 1, 0), place);
            }
        }
    }

    private static void tensionOfStep() {
        check.sentence("25: 2: 100 times the PLACE and TENSION");
        for (int place = 0; place < 6; place++) {
            int[] tensions = {0, 1, 50, 99};
            for (int tension : tensions) {
                GrassBridge x = Check.hung(0b000111 | 1 << place, 9);
                check.due("step of " + place + " to " + tension, x.step(2, 100 * place + tension, 3, 1, 0), 0);
                row("tuned at " + place, x, 3, 0);
                x.cut(place);
                noRow("none at " + place, x);
            }
        }
        GrassBridge x = Check.hung(0b111111, 9);
        int[] none = {-1, -2, -99, -100, -101, 600, 601, 699, 700, Integer.MIN_VALUE, Integer.MAX_VALUE};
        for (int arg : none) {
            check.due("step(2, " + arg + ", ..)", x.step(2, arg, 1, 1, 0), -1);
        }
        check.due("tension(0, 50), telling changes nothing", x.tension(0, 50), 50);
    }

    private static void days() {
        check.sentence("IV: DAYS it takes (1 .. 9)");
        GrassBridge x = free();
        check.due("step of 0 DAYS", x.step(0, 0, 0, 1, 0), -4);
        check.due("step of 10 DAYS", x.step(0, 0, 10, 1, 0), -6);
        check.due("step of 1 DAY", x.step(0, 0, 1, 1, 0), 0);
        row("1 DAY", x, 1, 0);
        check.due("step of 9 DAYS", x.step(0, 1, 9, 1, 0), 1);
        row("1 and 9 DAYS", x, 10, 0, 1);
    }

    private static void hands() {
        check.sentence("IV: HANDS it needs (1 .. 60)");
        GrassBridge x = Check.houses(0);
        for (int house = 0; house < 7; house++) {
            x.house(0, house < 6 ? 9 : 6);
        }
        check.due("count(4)", x.count(4), 60);
        check.due("step of 0 HANDS", x.step(0, 0, 1, 0, 0), -4);
        check.due("step of 61 HANDS", x.step(0, 0, 1, 61, 0), -6);
        check.due("step of 1 HAND", x.step(0, 0, 1, 1, 0), 0);
        check.due("step of 60 HANDS", x.step(0, 1, 1, 60, 0), 1);
        row("60 of 60", x, 2, 0, 1);
        x.set(6, 0, 5);
        noRow("60 of 59", x);
    }

    private static void afters() {
        check.sentence("IV: AFTER: a set of STEPS (of lesser numbers); 25: -1 AFTER others");
        GrassBridge x = free();
        for (int i = 0; i < 12; i++) {
            int set = (1 << i) - 1;
            check.due("AFTER -1", x.step(1, 0, 1, 1, -1), -1);
            check.due("AFTER itself", x.step(1, 0, 1, 1, set + 1), -1);
            check.due("AFTER itself and all", x.step(1, 0, 1, 1, 2 * set + 1), -1);
            check.due("AFTER -2147483648", x.step(1, 0, 1, 1, Integer.MIN_VALUE), -1);
            check.due("AFTER 2147483647", x.step(1, 0, 1, 1, Integer.MAX_VALUE), -1);
            check.due("AFTER all told", x.step(1, 0, 1, 1, set), i);
        }
        check.due("a thirteenth AFTER all", x.step(1, 0, 1, 1, 4095), -6);
        check.due("a thirteenth AFTER itself", x.step(1, 0, 1, 1, 4096), -1);
    }

    private static void noSteps() {
        check.sentence("27: BEST PLAN of no STEPS; 28: -9 there is none such");
        row("no STEPS", free(), 0);
        row("no STEPS and no HOUSES", new GrassBridge(), 0);
    }

    private static void cleared() {
        check.sentence("26: No STEPS are told: how many there were");
        GrassBridge x = free();
        check.due("clear() of none", x.clear(), 0);
        x.step(0, 0, 3, 1, 0);
        row("one STEP", x, 3, 0);
        check.due("clear()", x.clear(), 1);
        check.due("clear() again", x.clear(), 0);
        row("cleared", x, 0);
        check.due("AFTER one that is cleared", x.step(0, 0, 1, 1, 1), -1);
        x.step(0, 0, 4, 1, 0);
        row("told anew", x, 4, 0);
        nothingStaysOfThoseCleared();
    }

    /** Cuts that leave less than two may be, as no STEP that is cleared follows them. */
    private static void nothingStaysOfThoseCleared() {
        GrassBridge x = Check.hung(0b000111, 9);
        int[] kinds = {0, 2};
        for (int kind : kinds) {
            for (int i = 0; i < 3; i++) {
                x.step(kind, kind == 0 ? 3 + i : 100 * i, 1, 1, 0);
            }
            row("three led, or tuned at once", x, kind == 0 ? 3 : 1, 0, 1, 2);
            x.clear();
            for (int i = 0; i < 3; i++) {
                x.step(1, i, 1, 1, 0);
            }
            row("three cut in their stead", x, 3, 0, 1, 2);
            x.clear();
        }
    }

    private static void emptyThen() {
        check.sentence("IV: hung at a PLACE (that is empty then)");
        GrassBridge x = Check.hung(0b000111, 9);
        x.step(0, 0, 1, 1, 0);
        noRow("one is there", x);
        x.step(1, 0, 1, 1, 0);
        row("cut ahead", x, 2, 1, 0);
        x.clear();
        x.step(0, 0, 1, 1, 0);
        x.step(1, 0, 1, 1, 1);
        noRow("cut behind", x);
        x.clear();
        x.step(0, 5, 1, 1, 0);
        row("empty", x, 1, 0);
        x.step(0, 5, 1, 1, 0);
        noRow("led there twice", x);
    }

    private static void ropeAtItsPlace() {
        check.sentence("IV: A STEP of KIND 1, 2 needs a ROPE at its PLACE");
        for (int kind = 1; kind < 3; kind++) {
            GrassBridge x = Check.hung(0b000111, 9);
            int arg = kind == 2 ? 399 : 3;
            x.step(kind, arg, 1, 1, 0);
            noRow("none is there", x);
            x.clear();
            x.step(kind, arg, 1, 1, 0);
            x.step(0, 3, 1, 1, 0);
            row("led ahead", x, 2, 1, 0);
            x.clear();
            x.step(1, 2, 1, 1, 0);
            x.step(kind, kind == 2 ? 250 : 2, 1, 1, 1);
            noRow("cut ahead", x);
        }
    }

    private static void menStand() {
        check.sentence("IV: two ROPES at least must be hung at PLACES 0 .. 3");
        GrassBridge one = Check.hung(0b000001, 9);
        one.step(2, 430, 1, 1, 0);
        noRow("tuning of none", one);
        GrassBridge x = Check.hung(0b110001, 9);
        x.step(2, 430, 1, 1, 0);
        noRow("one on the floor", x);
        x.hang(Check.great(x, 0), 3);
        row("two on the floor", x, 1, 0);
        x.cut(0);
        noRow("one is cut", x);
        GrassBridge led = Check.hung(0b000001, 9);
        led.step(0, 4, 1, 1, 0);
        led.step(0, 5, 1, 1, 1);
        led.step(0, 1, 1, 1, 2);
        noRow("the third led above one", led);
        led.hang(Check.great(led, 0), 2);
        row("the third led above two", led, 3, 0, 1, 2);
    }

    private static void othersThanItsOwn() {
        check.sentence("IV: others than its own");
        GrassBridge x = Check.hung(0b000011, 9);
        x.step(2, 50, 1, 1, 0);
        noRow("tuned of two", x);
        x.hang(Check.great(x, 0), 3);
        row("tuned of three", x, 1, 0);
        GrassBridge led = free();
        for (int place = 0; place < 3; place++) {
            led.step(0, place, 1, 1, (1 << place) - 1);
        }
        row("the third above two others", led, 3, 0, 1, 2);
        GrassBridge few = Check.hung(0b000001, 9);
        few.step(0, 4, 1, 1, 0);
        few.step(0, 5, 1, 1, 1);
        few.step(0, 1, 1, 1, 3);
        noRow("the third is one of two", few);
    }

    private static void firstTwoLed() {
        check.sentence("IV: KIND 0: but for the first two (the first two STEPS of KIND 0 in the row)");
        GrassBridge x = free();
        x.step(0, 5, 1, 1, 0);
        x.step(0, 4, 1, 1, 0);
        row("two above nothing", x, 2, 0, 1);
        x.step(0, 0, 1, 1, 0);
        noRow("three, one of the floor", x);
        x.step(0, 1, 1, 1, 0);
        row("in the row, not as they are told", x, 4, 2, 3, 0, 1);
        GrassBridge hung = Check.hung(0b000011, 9);
        hung.step(1, 1, 1, 1, 0);
        hung.step(0, 2, 1, 1, 1);
        noRow("the first led, but behind a cut that leaves one", hung);
    }

    private static void handsAreNoFloor() {
        check.sentence("IV: at PLACES 0 .. 3");
        GrassBridge x = Check.hung(0b110000, 9);
        x.step(0, 0, 1, 1, 0);
        x.step(0, 1, 1, 1, 0);
        row("the first two", x, 2, 0, 1);
        x.step(2, 450, 1, 1, 0);
        row("a hand is tuned above two", x, 3, 0, 1, 2);
        x.clear();
        x.step(0, 0, 1, 1, 0);
        x.step(2, 450, 1, 1, 1);
        noRow("a hand is tuned above one and a hand", x);
    }

    private static void moreHandsThanHere() {
        check.sentence("IV: A STEP that needs more HANDS than all HOUSES HERE have can't be done");
        for (int kind = 0; kind < 3; kind++) {
            GrassBridge x = Check.hung(0b000111, 4);
            x.house(1, 3);
            x.step(kind, kind == 0 ? 3 : 0, 2, 7, 0);
            row("7 of 7", x, 2, 0);
            x.set(1, 0, 2);
            noRow("7 of 6", x);
            x.set(1, 0, 9);
            row("7 of 13", x, 2, 0);
            x.set(0, 2, 0);
            row("7 of 9", x, 2, 0);
            x.set(1, 2, 0);
            noRow("7 of none", x);
        }
    }

    private static void noneHere() {
        check.sentence("IV: all HOUSES HERE (none)");
        GrassBridge x = new GrassBridge();
        check.due("step", x.step(0, 0, 1, 1, 0), 0);
        noRow("no HOUSE", x);
        x.house(0, 1);
        row("one HAND", x, 1, 0);
        x.set(0, 2, 0);
        noRow("AWAY", x);
    }

    private static void cutLeavesTwo() {
        check.sentence("IV: KIND 1 may only leave less than two there if no STEP of KIND 0, 2 follows it");
        GrassBridge x = Check.hung(0b001111, 9);
        x.step(1, 0, 1, 1, 0);
        x.step(1, 1, 1, 1, 1);
        x.step(0, 0, 1, 1, 3);
        row("two are left, one is led", x, 3, 0, 1, 2);
        x.clear();
        x.step(1, 0, 1, 1, 0);
        x.step(1, 1, 1, 1, 1);
        x.step(2, 450, 1, 1, 3);
        noRow("no ROPE to tune at 4", x);
        x.hang(Check.great(x, 0), 4);
        row("two are left, one is tuned", x, 3, 0, 1, 2);
        x.clear();
        x.step(1, 0, 1, 1, 0);
        x.step(1, 1, 1, 1, 1);
        x.step(1, 2, 1, 1, 3);
        x.step(0, 0, 1, 1, 7);
        noRow("one is left, one is led", x);
        x.clear();
        x.step(1, 0, 1, 1, 0);
        x.step(1, 1, 1, 1, 1);
        x.step(1, 2, 1, 1, 3);
        x.step(2, 450, 1, 1, 7);
        noRow("one is left, one is tuned", x);
    }

    private static void cutBehindAll() {
        check.sentence("IV: if no STEP of KIND 0, 2 follows it in the row");
        GrassBridge x = Check.hung(0b001111, 9);
        for (int place = 0; place < 4; place++) {
            x.step(1, place, 1, 1, 0);
        }
        row("all are cut", x, 4, 0, 1, 2, 3);
        x.step(2, 350, 1, 1, 0);
        row("tuned ahead of the third cut", x, 5, 0, 4, 1, 2, 3);
        x.clear();
        for (int place = 0; place < 3; place++) {
            x.step(1, place, 1, 1, 0);
        }
        x.step(0, 4, 1, 1, 0);
        row("led ahead of the third cut", x, 4, 0, 1, 3, 2);
    }

    private static void cutOfHand() {
        check.sentence("IV: less than two there, of any STEP of KIND 1");
        GrassBridge x = Check.hung(0b110001, 9);
        x.step(1, 4, 1, 1, 0);
        x.step(0, 1, 1, 1, 0);
        row("a hand is cut behind", x, 2, 1, 0);
        x.hang(Check.great(x, 0), 2);
        row("a hand is cut above two", x, 2, 0, 1);
    }

    private static void behindItsAfters() {
        check.sentence("IV: a row of all STEPS, each behind its AFTERS");
        GrassBridge x = Check.hung(0b000011, 9);
        x.step(0, 2, 1, 1, 0);
        x.step(0, 3, 2, 1, 1);
        x.step(0, 4, 3, 1, 3);
        x.step(1, 4, 4, 1, 7);
        row("one behind the other", x, 10, 0, 1, 2, 3);
        x.clear();
        x.step(0, 3, 1, 1, 0);
        x.step(1, 3, 1, 1, 1);
        x.step(0, 3, 1, 1, 2);
        row("led, cut and led", x, 3, 0, 1, 2);
        x.clear();
        x.step(1, 3, 1, 1, 0);
        x.step(0, 3, 1, 1, 1);
        noRow("its AFTER can't be first", x);
    }

    private static void groupsOfTuning() {
        check.sentence("IV: some STEPS may be done on the same days: of KIND 2 alone; the greatest of their DAYS");
        GrassBridge x = Check.hung(0b001111, 9);
        for (int place = 0; place < 4; place++) {
            x.step(2, 100 * place, 1 + 2 * place, 2, 0);
        }
        row("four at once", x, 7, 0, 1, 2, 3);
        x.clear();
        x.step(1, 2, 5, 1, 0);
        x.step(1, 3, 5, 1, 0);
        row("cuts are no group", x, 10, 0, 1);
        x.clear();
        x.step(0, 4, 5, 1, 0);
        x.step(0, 5, 5, 1, 0);
        row("leading over is no group", x, 10, 0, 1);
        x.clear();
        x.step(0, 4, 5, 1, 0);
        x.step(2, 50, 5, 1, 0);
        row("leading over and tuning are no group", x, 10, 0, 1);
        x.clear();
        x.step(2, 50, 5, 1, 0);
        x.step(1, 3, 5, 1, 0);
        row("tuning and cutting are no group", x, 10, 0, 1);
    }

    private static void groupHands() {
        check.sentence("IV: whose HANDS together are no more than HANDS of all HOUSES HERE");
        GrassBridge x = Check.hung(0b000111, 5);
        x.house(1, 2);
        x.step(2, 1, 4, 3, 0);
        x.step(2, 101, 5, 4, 0);
        row("7 of 7", x, 5, 0, 1);
        x.set(1, 0, 1);
        row("7 of 6", x, 9, 0, 1);
        x.set(1, 0, 9);
        row("7 of 14", x, 5, 0, 1);
        x.set(1, 2, 0);
        row("7 of 5, one AWAY", x, 9, 0, 1);
    }

    private static void groupAfter() {
        check.sentence("IV: of which none is AFTER another one");
        GrassBridge x = Check.hung(0b001111, 9);
        x.step(2, 1, 4, 1, 0);
        x.step(2, 101, 4, 1, 1);
        row("AFTER the other", x, 8, 0, 1);
        x.clear();
        x.step(2, 1, 4, 1, 0);
        x.step(2, 101, 4, 1, 1);
        x.step(2, 201, 4, 1, 1);
        x.step(2, 301, 4, 1, 0);
        row("two AFTER the first", x, 8, 0, 1, 2, 3);
        x.clear();
        x.step(2, 1, 4, 1, 0);
        x.step(2, 101, 4, 1, 1);
        x.step(2, 201, 4, 1, 2);
        row("AFTER one that is AFTER one", x, 12, 0, 1, 2);
    }

    private static void groupNextToOneAnother() {
        check.sentence("IV: STEPS next to one another in the row");
        GrassBridge x = Check.hung(0b001111, 9);
        x.step(2, 1, 4, 1, 0);
        x.step(1, 3, 1, 1, 1);
        x.step(2, 101, 4, 1, 2);
        row("a cut between", x, 9, 0, 1, 2);
        x.clear();
        x.step(2, 1, 4, 1, 0);
        x.step(1, 3, 1, 1, 0);
        x.step(2, 101, 4, 1, 0);
        row("the cut behind", x, 5, 0, 2, 1);
    }

    private static void groupsAsWellAsCanBe() {
        check.sentence("IV: each row grouped as well as can be");
        GrassBridge x = Check.hung(0b001111, 6);
        x.step(2, 1, 2, 3, 0);
        x.step(2, 101, 9, 3, 1);
        x.step(2, 201, 9, 3, 3);
        row("each AFTER the last: no group", x, 20, 0, 1, 2);
        x.clear();
        x.step(2, 1, 2, 3, 0);
        x.step(2, 101, 9, 3, 0);
        x.step(2, 201, 9, 3, 0);
        row("0 alone, not with 1", x, 11, 0, 1, 2);
    }

    private static void firstByNumbers() {
        check.sentence("IV: of several the first by numbers");
        GrassBridge x = Check.hung(0b000011, 9);
        x.step(0, 5, 1, 1, 0);
        x.step(0, 4, 1, 1, 0);
        x.step(0, 3, 1, 1, 0);
        x.step(0, 2, 1, 1, 0);
        row("all are alike", x, 4, 0, 1, 2, 3);
        GrassBridge tuned = Check.hung(0b001111, 2);
        for (int i = 0; i < 4; i++) {
            tuned.step(2, 100 * i, 3, 1, 0);
        }
        row("two and two", tuned, 6, 0, 1, 2, 3);
    }

    private static void fewestAheadOfNumbers() {
        check.sentence("IV: of all rows that may be the one with the fewest DAYS");
        GrassBridge x = Check.hung(0b001111, 2);
        int[] days = {1, 5, 1, 5};
        for (int i = 0; i < 4; i++) {
            x.step(2, 100 * i, days[i], 1, 0);
        }
        row("1 with 1 and 5 with 5", x, 6, 0, 2, 1, 3);
    }

    private static void eightSteps() {
        check.sentence("IV: BEST PLAN is asked of 8 at most; 27: -6 more than 8 STEPS");
        GrassBridge x = Check.hung(0b001111, 8);
        for (int i = 0; i < 8; i++) {
            check.due("step " + i, x.step(2, 100 * (i % 4), 9, 1, 0), i);
        }
        row("8 at once", x, 9, 0, 1, 2, 3, 4, 5, 6, 7);
        x.step(2, 0, 1, 1, 0);
        check.due("plan() of 9", x.plan(), -6);
        check.due("planAt(0) of 9", x.planAt(0), -6);
        check.due("planAt(9) of 9", x.planAt(9), -6);
        check.due("planAt(-1) of 9", x.planAt(-1), -6);
        check.due("count(16)", x.count(16), 4);
        check.due("clear()", x.clear(), 9);
        row("cleared", x, 0);
    }

    private static void placesInPlan() {
        check.sentence("28: The STEP that is k-th in it; -9 there is none such");
        GrassBridge x = free();
        x.step(0, 4, 1, 1, 0);
        x.step(0, 0, 1, 1, 0);
        x.step(0, 1, 1, 1, 0);
        int[] none = {-1, -2, 3, 4, 8, 12, Integer.MIN_VALUE, Integer.MAX_VALUE};
        for (int k : none) {
            check.due("planAt(" + k + ")", x.planAt(k), -9);
        }
        check.due("planAt(2), asked ahead of plan()", x.planAt(2), 0);
        check.due("planAt(0)", x.planAt(0), 1);
        check.due("planAt(1)", x.planAt(1), 2);
        check.due("plan()", x.plan(), 3);
    }

    private static void fromTheBridgeAsItIs() {
        check.sentence("27: BEST PLAN, from the bridge as it is");
        GrassBridge x = Check.hung(0b000111, 9);
        x.step(2, 50, 2, 1, 0);
        row("three hang", x, 2, 0);
        x.cut(1);
        noRow("two hang", x);
        x.hang(Check.great(x, 0), 3);
        row("three hang again", x, 2, 0);
        Check.older(x, 10);
        row("STEPS outlast the YEARS, ropes of STRENGTH 0 hang", x, 2, 0);
        x.weeks(1);
        noRow("all broke", x);
    }

    private static void daysAtMost() {
        check.sentence("27: DAYS");
        GrassBridge x = Check.hung(0b000011, 9);
        for (int i = 0; i < 8; i++) {
            x.step(i % 2, 2, 9, 1, 0);
        }
        row("8 STEPS of 9 DAYS", x, 72, 0, 1, 2, 3, 4, 5, 6, 7);
    }
}
