/** The edges of PEOPLE and MASTERS, a method for each sentence that names one. */
public final class PeopleEdgesTest {
    private static final Check check = new Check();

    public static void main(String[] args) {
        thirtyPeople();
        births();
        parents();
        noneForParent();
        bornWithParent();
        aliveAtFirst();
        aliveOrNot();
        nobodyAlive();
        twentyYears();
        bornLater();
        oldestChild();
        oneYear();
        parentAhead();
        linesOfTheGone();
        withoutParent();
        deepestLine();
        check.end();
    }

    private static void thirtyPeople() {
        check.sentence("V: PEOPLE have numbers from 0 on (30 at most); 29: -6 (30, too)");
        GrassBridge x = new GrassBridge();
        for (int i = 0; i < 30; i++) {
            check.due("count(7)", x.count(7), i);
            check.due("alive(" + i + ", true), not yet told", x.alive(i, true), -1);
            check.due("person " + i, x.person(-1, 0), i);
            check.due("alive(" + i + ", true)", x.alive(i, true), 0);
        }
        check.due("person 30", x.person(-1, 0), -6);
        check.due("alive(30, true)", x.alive(30, true), -1);
        check.due("count(7)", x.count(7), 30);
        x.alive(7, false);
        check.due("person 30, one is gone", x.person(-1, 0), -6);
    }

    private static void births() {
        check.sentence("V: born in a YEAR (-60 .. 60)");
        GrassBridge x = new GrassBridge();
        check.due("person(-1, -61)", x.person(-1, -61), -4);
        check.due("person(-1, 61)", x.person(-1, 61), -6);
        check.due("person(-1, -60)", x.person(-1, -60), 0);
        check.due("person(-1, 60)", x.person(-1, 60), 1);
        check.due("person(0, -60)", x.person(0, -60), 2);
        check.due("person(0, 60)", x.person(0, 60), 3);
        check.due("count(7)", x.count(7), 4);
    }

    private static void parents() {
        check.sentence("V: a PARENT (of a lesser number, or none)");
        GrassBridge x = new GrassBridge();
        for (int i = 0; i < 30; i++) {
            check.due("its own number", x.person(i, 0), -1);
            check.due("one more", x.person(i + 1, 0), -1);
            check.due("the last told", x.person(i - 1, 0), i);
        }
    }

    private static void noneForParent() {
        check.sentence("29: -1 PARENT (-1: none)");
        GrassBridge x = new GrassBridge();
        check.due("person(-1, 0)", x.person(-1, 0), 0);
        check.due("person(-2, 0)", x.person(-2, 0), -1);
        check.due("person(-2147483648, 0)", x.person(Integer.MIN_VALUE, 0), -1);
        check.due("person(2147483647, 0)", x.person(Integer.MAX_VALUE, 0), -1);
        check.due("count(7)", x.count(7), 1);
    }

    private static void bornWithParent() {
        check.sentence("V: not ahead of the PARENT's; 29: -3 born ahead of the PARENT");
        int[] years = {-59, -1, 0, 1, 60};
        for (int year : years) {
            GrassBridge x = new GrassBridge();
            x.person(-1, year);
            check.due("a YEAR ahead of " + year, x.person(0, year - 1), -3);
            check.due("in the same as " + year, x.person(0, year), 1);
            check.due("a YEAR ahead of a child's", x.person(1, year - 1), -3);
            check.due("count(13)", x.count(13), 2);
            check.due("count(7)", x.count(7), 2);
        }
        GrassBridge x = new GrassBridge();
        x.person(-1, -60);
        check.due("a YEAR ahead of -60", x.person(0, -61), -4);
    }

    private static void aliveAtFirst() {
        check.sentence("30: A PERSON is ALIVE, or not: 1; 0 if it was so (ALIVE at first)");
        GrassBridge x = new GrassBridge();
        x.person(-1, -60);
        check.due("alive(0, true)", x.alive(0, true), 0);
        check.due("master()", x.master(), 0);
    }

    private static void aliveOrNot() {
        check.sentence("30: 1; 0 if it was so");
        GrassBridge x = new GrassBridge();
        x.person(-1, -60);
        check.due("alive(0, false)", x.alive(0, false), 1);
        check.due("alive(0, false)", x.alive(0, false), 0);
        check.due("alive(0, true)", x.alive(0, true), 1);
        check.due("alive(0, true)", x.alive(0, true), 0);
        check.due("alive(1, false)", x.alive(1, false), -1);
        check.due("alive(-1, false)", x.alive(-1, false), -1);
    }

    private static void nobodyAlive() {
        check.sentence("31: -9 nobody");
        GrassBridge x = new GrassBridge();
        check.due("master() of no PEOPLE", x.master(), -9);
        x.person(-1, -60);
        x.person(0, -40);
        x.alive(0, false);
        x.alive(1, false);
        check.due("master(), none is ALIVE", x.master(), -9);
        x.alive(1, true);
        check.due("master(), ALIVE again", x.master(), 1);
        for (int what = 11; what <= 16; what++) {
            check.due("-9 is no refusal: count(" + what + ")", x.count(what), 0);
        }
    }

    private static void twentyYears() {
        check.sentence("V: of those ALIVE, 20 YEARS old or more");
        int[] births = {-20, -19, 0, 1, 40};
        for (int born : births) {
            GrassBridge x = new GrassBridge();
            x.person(-1, born);
            for (int year = 0; year <= 60; year++) {
                check.due("born " + born + ", YEAR " + year, x.master(), year - born >= 20 ? 0 : -9);
                x.close();
            }
        }
    }

    private static void bornLater() {
        check.sentence("V: 20 YEARS old or more, born in a YEAR to come");
        GrassBridge x = new GrassBridge();
        x.person(-1, 41);
        x.person(-1, 60);
        Check.older(x, 60);
        check.due("master(), 19 and 0 YEARS old in 60", x.master(), -9);
        x.person(-1, 40);
        check.due("master(), 20 YEARS old in 60", x.master(), 2);
    }

    private static void masters(String when, GrassBridge x, int... want) {
        for (int person : want) {
            check.due(when + ": master()", x.master(), person);
            x.alive(person, false);
        }
        check.due(when + ": master() of none", x.master(), -9);
    }

    private static void oldestChild() {
        check.sentence("V: the oldest child's line ahead of the next one's");
        GrassBridge x = new GrassBridge();
        x.person(-1, -60);
        x.person(0, -30);
        x.person(0, -31);
        x.person(1, -25);
        x.person(2, -20);
        masters("the later told is older", x, 0, 2, 4, 1, 3);
    }

    private static void oneYear() {
        check.sentence("V: (of one YEAR the lesser number)");
        GrassBridge x = new GrassBridge();
        x.person(-1, -60);
        x.person(0, -30);
        x.person(0, -30);
        x.person(2, -30);
        x.person(1, -20);
        x.person(0, -30);
        masters("three of one YEAR", x, 0, 1, 4, 2, 3, 5);
    }

    private static void parentAhead() {
        check.sentence("V: a parent ahead of children");
        GrassBridge x = new GrassBridge();
        x.person(-1, -30);
        x.person(0, -30);
        x.person(1, -30);
        masters("all born in one YEAR", x, 0, 1, 2);
    }

    private static void linesOfTheGone() {
        check.sentence("V: by line: of those ALIVE, 20 YEARS old or more");
        GrassBridge x = new GrassBridge();
        x.person(-1, -60);
        x.person(0, -40);
        x.person(0, -39);
        x.person(1, -10);
        x.person(3, -10);
        x.alive(0, false);
        x.alive(1, false);
        check.due("the oldest line's are too young", x.master(), 2);
        Check.older(x, 10);
        check.due("the oldest line comes of age", x.master(), 3);
        x.alive(3, false);
        check.due("the child of one gone", x.master(), 4);
        x.alive(1, true);
        check.due("ALIVE again", x.master(), 1);
    }

    private static void withoutParent() {
        check.sentence("V: lines of those without PARENT by numbers");
        GrassBridge x = new GrassBridge();
        x.person(-1, -20);
        x.person(-1, -60);
        x.person(1, -50);
        x.person(0, -20);
        x.person(-1, -55);
        masters("by numbers, not by births", x, 0, 3, 1, 2, 4);
    }

    private static void deepestLine() {
        check.sentence("V: 30 at most, each the child of the last");
        GrassBridge x = new GrassBridge();
        int[] all = new int[30];
        for (int i = 0; i < 30; i++) {
            x.person(i - 1, -60 + i);
            all[i] = i;
        }
        masters("a line of 30", x, all);
        GrassBridge last = new GrassBridge();
        for (int i = 0; i < 29; i++) {
            last.person(i - 1, -40);
            last.alive(i, false);
        }
        last.person(-1, -60);
        check.due("the next line behind 29 gone", last.master(), 29);
        last.alive(28, true);
        check.due("the last of 29", last.master(), 28);
    }
}
