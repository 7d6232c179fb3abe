/** Terms, part 1, floors to EASED: what each sentence names as a bound, one test for each. */
public final class TermsHallTest {
    private static final int BAD = NobodyCanLiftIt.BAD, FULL = NobodyCanLiftIt.FULL;

    public static void main(String[] args) {
        floorsAreTen();
        loadsAreWithinTheirBounds();
        loadsAtFirst();
        swordLiesOnFloorsAndTheRock();
        yearIsWithinItsBounds();
        peopleAreFiveAtMost();
        kindsAreSix();
        numbersAreWithinTheirBounds();
        agesAreWithinTheirBounds();
        easesAreWithinTheirBounds();
        oneComesWithoutEaseAndHere();
        oneIsHereOrNot();
        manFeels();
        kingFeels();
        childFeels();
        queenFeels();
        knitterFeels();
        engineerFeels();
        weightOfNobody();
        weightOfThoseHere();
        weightIsExact();
        manAndKingAreStrong();
        childIsStrong();
        queenIsStrong();
        knitterIsStrong();
        engineerIsStrong();
        manKingAndQueenAreEased();
        childAndKnitterAreEased();
        engineerIsEased();
        easeIs99AtMost();
        objectsAreApart();
        the512thCallIsAnswered();
        Due.end();
    }

    /** FLOORS 0 .. 9, the hall the first, 9 the lowest, the ROCK below them (10): LOAD of each. */
    private static void floorsAreTen() {
        NobodyCanLiftIt x = new NobodyCanLiftIt();
        Due.isTrue("0 has a load", x.told(0, 0) >= 0 && x.set(0, 0, 1) >= 0);
        Due.isTrue("9 has a load", x.told(9, 0) >= 0 && x.set(0, 9, 1) >= 0);
        for (int f : Due.outside(0, 9)) {
            Due.is("told(" + f + ", 0)", x.told(f, 0), BAD);
            Due.is("set(0, " + f + ", 1)", x.set(0, f, 1), BAD);
        }
    }

    /** LOAD of each (0 .. 999). */
    private static void loadsAreWithinTheirBounds() {
        NobodyCanLiftIt x = new NobodyCanLiftIt();
        for (int f = 0; f < 10; f++) {
            Due.is("999", x.set(0, f, 999), 5 * f + 5);
            Due.is("0", x.set(0, f, 0), 999);
            for (int v : Due.outside(0, 999)) {
                Due.is("set(0, " + f + ", " + v + ")", x.set(0, f, v), BAD);
            }
            Due.is("0 still", x.told(f, 0), 0);
        }
    }

    /** 5 times one more than its number at first. */
    private static void loadsAtFirst() {
        NobodyCanLiftIt x = new NobodyCanLiftIt();
        int[] loads = {5, 10, 15, 20, 25, 30, 35, 40, 45, 50};
        for (int f = 0; f < 10; f++) {
            Due.is("told(" + f + ", 0)", x.told(f, 0), loads[f]);
        }
    }

    /** THE SWORD lies ON a FLOOR, or the ROCK (0 .. 10; 0 at first). */
    private static void swordLiesOnFloorsAndTheRock() {
        NobodyCanLiftIt x = new NobodyCanLiftIt();
        Due.is("0 at first", x.told(0, 1), 0);
        Due.is("on the rock", x.set(1, 0, 10), 0);
        for (int v : Due.outside(0, 10)) {
            Due.is("set(1, 0, " + v + ")", x.set(1, 0, v), BAD);
        }
        Due.is("on the rock still", x.told(0, 1), 10);
        Due.is("on the first", x.set(1, 0, 0), 10);
    }

    /** YEAR (0 .. 999; 0 at first). */
    private static void yearIsWithinItsBounds() {
        NobodyCanLiftIt x = new NobodyCanLiftIt();
        Due.is("0 at first", x.told(0, 2), 0);
        Due.is("0 at first, counted", x.count(2), 0);
        Due.is("999", x.set(2, 0, 999), 0);
        for (int v : Due.outside(0, 999)) {
            Due.is("set(2, 0, " + v + ")", x.set(2, 0, v), BAD);
        }
        Due.is("0", x.set(2, 0, 0), 999);
    }

    /** PEOPLE (5 at most, numbered from 0). */
    private static void peopleAreFiveAtMost() {
        NobodyCanLiftIt x = new NobodyCanLiftIt();
        for (int i = 0; i < 5; i++) {
            Due.is("none such yet", x.told(i, 3), BAD);
            Due.is("comes", x.person(0, i, 0), i);
            Due.is("of that number", x.told(i, 3), i);
        }
        Due.is("no sixth", x.person(0, 9, 0), FULL);
        Due.is("five", x.count(0), 5);
        Due.is("none is numbered 5", x.told(5, 3), BAD);
        Due.is("the last one stays", x.told(4, 3), 4);
    }

    /** a KIND: 0 MAN .. 5 ENGINEER. */
    private static void kindsAreSix() {
        for (int kind = 0; kind < 6; kind++) {
            NobodyCanLiftIt x = new NobodyCanLiftIt();
            Due.is("comes", x.person(kind, 0, 0), 0);
            Due.is("kind", x.told(0, 7), kind);
        }
        NobodyCanLiftIt x = new NobodyCanLiftIt();
        for (int kind : Due.outside(0, 5)) {
            Due.is("no kind " + kind, x.person(kind, 0, 0), BAD);
        }
        Due.is("nobody came", x.count(0), 0);
    }

    /** a NUMBER (0 .. 9). */
    private static void numbersAreWithinTheirBounds() {
        NobodyCanLiftIt x = new NobodyCanLiftIt();
        for (int v : Due.outside(0, 9)) {
            Due.is("person(0, " + v + ", 0)", x.person(0, v, 0), BAD);
        }
        Due.is("comes with 0", x.person(0, 0, 0), 0);
        Due.is("comes with 9", x.person(0, 9, 0), 1);
        for (int v : Due.outside(0, 9)) {
            Due.is("set(3, 0, " + v + ")", x.set(3, 0, v), BAD);
        }
        Due.is("to 9", x.set(3, 0, 9), 0);
        Due.is("to 0", x.set(3, 1, 0), 9);
    }

    /** an AGE (0 .. 999). */
    private static void agesAreWithinTheirBounds() {
        NobodyCanLiftIt x = new NobodyCanLiftIt();
        for (int v : Due.outside(0, 999)) {
            Due.is("person(0, 0, " + v + ")", x.person(0, 0, v), BAD);
        }
        Due.is("comes with 0", x.person(0, 0, 0), 0);
        Due.is("comes with 999", x.person(0, 0, 999), 1);
        for (int v : Due.outside(0, 999)) {
            Due.is("set(4, 0, " + v + ")", x.set(4, 0, v), BAD);
        }
        Due.is("to 999", x.set(4, 0, 999), 0);
        Due.is("to 0", x.set(4, 1, 0), 999);
    }

    /** EASE (0 .. 99). */
    private static void easesAreWithinTheirBounds() {
        NobodyCanLiftIt x = new NobodyCanLiftIt();
        x.person(0, 0, 0);
        Due.is("to 99", x.set(5, 0, 99), 0);
        for (int v : Due.outside(0, 99)) {
            Due.is("set(5, 0, " + v + ")", x.set(5, 0, v), BAD);
        }
        Due.is("to 0", x.set(5, 0, 0), 99);
    }

    /** EASE (.. 0 as one comes), are HERE or not (HERE as one comes); also in the place of one who went. */
    private static void oneComesWithoutEaseAndHere() {
        NobodyCanLiftIt x = new NobodyCanLiftIt();
        x.image();
        for (int round = 0; round < 3; round++) {
            for (int i = 0; i < 5; i++) {
                x.person(i, i, 20);
                Due.is("ease", x.told(i, 5), 0);
                Due.is("here", x.told(i, 6), 1);
                x.set(5, i, 50 + i);
                x.set(6, i, 0);
            }
            x.year();
            x.back();
        }
    }

    /** are HERE or not; whether one is HERE (6; 1, 0). */
    private static void oneIsHereOrNot() {
        NobodyCanLiftIt x = new NobodyCanLiftIt();
        x.person(0, 0, 0);
        Due.is("gone", x.set(6, 0, 0), 1);
        for (int v : Due.outside(0, 1)) {
            Due.is("set(6, 0, " + v + ")", x.set(6, 0, v), BAD);
        }
        Due.is("gone still", x.count(1), 0);
        Due.is("here", x.set(6, 0, 1), 0);
        Due.is("here now", x.count(1), 1);
    }

    /** What one of a kind feels by v, as a fraction. */
    private static void feels(int v, int kind, int number, int age, int ease, int above, int below) {
        NobodyCanLiftIt x = Due.by("" + v, "0", "0");
        x.person(kind, number, age);
        x.set(5, 0, ease);
        String who = "kind " + kind + ", number " + number + ", age " + age + ", ease " + ease + " by " + v;
        Due.is("above, " + who, x.feels(0, 0), above);
        Due.is("below, " + who, x.feels(0, 1), below);
        Due.is("the weight above, " + who, x.weight(0), above);
        Due.is("the weight below, " + who, x.weight(1), below);
    }

    /** MAN: v by (NUMBER and 1). */
    private static void manFeels() {
        feels(0, 0, 0, 0, 0, 0, 1);
        feels(0, 0, 9, 0, 0, 0, 1);
        feels(99, 0, 0, 0, 0, 99, 1);
        feels(99, 0, 9, 0, 0, 99, 10);
        feels(1, 0, 9, 0, 0, 1, 10);
        feels(7, 0, 6, 0, 99, 1, 1);
    }

    /** KING: twice a MAN's. */
    private static void kingFeels() {
        feels(0, 1, 9, 0, 0, 0, 1);
        feels(99, 1, 0, 0, 0, 198, 1);
        feels(99, 1, 9, 0, 0, 99, 5);
        feels(1, 1, 9, 0, 99, 1, 5);
        feels(1, 1, 8, 0, 0, 2, 9);
    }

    /** CHILD: nothing, if AGE is below 9, else half of a MAN's. */
    private static void childFeels() {
        feels(99, 2, 0, 0, 0, 0, 1);
        feels(99, 2, 0, 8, 0, 0, 1);
        feels(99, 2, 0, 9, 0, 99, 2);
        feels(99, 2, 0, 10, 0, 99, 2);
        feels(99, 2, 9, 999, 0, 99, 20);
        feels(1, 2, 9, 9, 99, 1, 20);
        feels(0, 2, 9, 9, 0, 0, 1);
    }

    /** QUEEN: a KING's less EASE, nothing at least. */
    private static void queenFeels() {
        feels(0, 3, 0, 0, 0, 0, 1);
        feels(0, 3, 0, 0, 99, 0, 1);
        feels(99, 3, 0, 0, 0, 198, 1);
        feels(99, 3, 0, 0, 99, 99, 1);
        feels(99, 3, 9, 0, 19, 4, 5);
        feels(99, 3, 9, 0, 20, 0, 1);
        feels(99, 3, 9, 0, 99, 0, 1);
        feels(5, 3, 0, 0, 9, 1, 1);
        feels(5, 3, 0, 0, 10, 0, 1);
        feels(5, 3, 0, 0, 11, 0, 1);
    }

    /** KNITTER: a third of a CHILD's. */
    private static void knitterFeels() {
        feels(99, 4, 0, 0, 0, 0, 1);
        feels(99, 4, 0, 8, 0, 0, 1);
        feels(99, 4, 0, 9, 0, 33, 2);
        feels(99, 4, 9, 999, 0, 33, 20);
        feels(1, 4, 9, 9, 99, 1, 60);
        feels(0, 4, 9, 9, 0, 0, 1);
    }

    /** ENGINEER: v. */
    private static void engineerFeels() {
        feels(0, 5, 9, 0, 0, 0, 1);
        feels(1, 5, 9, 0, 99, 1, 1);
        feels(99, 5, 9, 0, 0, 99, 1);
    }

    private static void weighs(String when, NobodyCanLiftIt x, int above, int below) {
        Due.is("above, " + when, x.weight(0), above);
        Due.is("below, " + when, x.weight(1), below);
    }

    /** WEIGHT of THE SWORD: what all who are HERE FEEL; nobody feels nothing. */
    private static void weightOfNobody() {
        NobodyCanLiftIt x = new NobodyCanLiftIt();
        weighs("nobody came", x, 0, 1);
        x.person(0, 2, 0);
        x.set(6, 0, 0);
        weighs("nobody is here", x, 0, 1);
        x.set(6, 0, 1);
        weighs("one is here", x, 10, 3);
    }

    /** all who are HERE: of five each one. */
    private static void weightOfThoseHere() {
        NobodyCanLiftIt x = Due.by("number", "0", "0");
        for (int i = 0; i < 5; i++) {
            x.person(5, 1 << i >> 1, 0);
        }
        weighs("all", x, 15, 1);
        int[] without = {15, 14, 13, 11, 7};
        for (int i = 0; i < 5; i++) {
            x.set(6, i, 0);
            weighs("without " + i, x, without[i], 1);
            x.set(6, i, 1);
        }
    }

    /** together, exact: in lowest terms, the largest and the smallest of parts. */
    private static void weightIsExact() {
        NobodyCanLiftIt x = Due.by("1", "0", "0");
        for (int number = 6; number < 10; number++) {
            x.person(4, number, 9);
        }
        // 1/42, 1/48, 1/54, 1/60: 360, 315, 280, 252 parts of 15120.
        weighs("knitters", x, 1207, 15120);
        NobodyCanLiftIt y = new NobodyCanLiftIt();
        for (int i = 0; i < 3; i++) {
            y.person(0, 2, 0);
        }
        weighs("three thirds of 10", y, 10, 1);
        NobodyCanLiftIt z = Due.by("99", "0", "0");
        for (int i = 0; i < 5; i++) {
            z.person(1, 0, 0);
        }
        weighs("the heaviest", z, 990, 1);
    }

    /** How strong one of a kind is by v, the sword on the first floor. */
    private static void strong(int v, int kind, int number, int ease, int want) {
        NobodyCanLiftIt x = Due.by("0", "" + v, "0");
        x.person(kind, number, 0);
        x.set(5, 0, ease);
        Due.is("how strong kind " + kind + ", number " + number + ", ease " + ease + " is by " + v, x.told(0, 8), want);
    }

    /** MAN: v; KING: NUMBER more than a MAN. */
    private static void manAndKingAreStrong() {
        strong(0, 0, 9, 99, 0);
        strong(99, 0, 9, 99, 99);
        strong(0, 1, 0, 99, 0);
        strong(0, 1, 9, 99, 9);
        strong(99, 1, 0, 99, 99);
        strong(99, 1, 9, 99, 108);
    }

    /** CHILD: a tenth (cut) of a MAN's. */
    private static void childIsStrong() {
        strong(0, 2, 9, 99, 0);
        strong(9, 2, 9, 99, 0);
        strong(10, 2, 9, 99, 1);
        strong(19, 2, 9, 99, 1);
        strong(20, 2, 9, 99, 2);
        strong(99, 2, 9, 99, 9);
    }

    /** QUEEN: as a KING, but twice that, if EASE is 50 or more. */
    private static void queenIsStrong() {
        strong(99, 3, 9, 0, 108);
        strong(99, 3, 9, 49, 108);
        strong(99, 3, 9, 50, 216);
        strong(99, 3, 9, 51, 216);
        strong(99, 3, 9, 99, 216);
        strong(0, 3, 0, 99, 0);
        strong(0, 3, 1, 49, 1);
        strong(0, 3, 1, 50, 2);
    }

    /** KNITTER: EASE more than a CHILD. */
    private static void knitterIsStrong() {
        strong(9, 4, 9, 0, 0);
        strong(9, 4, 9, 99, 99);
        strong(10, 4, 9, 0, 1);
        strong(99, 4, 9, 99, 108);
    }

    /** ENGINEER: v and LOAD of the FLOOR it lies ON (of the ROCK 0). */
    private static void engineerIsStrong() {
        NobodyCanLiftIt x = Due.by("0", "99", "0");
        x.person(5, 9, 0);
        Due.is("on the first", x.told(0, 8), 104);
        x.set(1, 0, 9);
        Due.is("on the lowest", x.told(0, 8), 149);
        x.set(0, 9, 999);
        Due.is("with the largest load", x.told(0, 8), 1098);
        x.set(0, 9, 0);
        Due.is("with the least load", x.told(0, 8), 99);
        x.set(0, 9, 999);
        x.set(1, 0, 10);
        Due.is("on the rock", x.told(0, 8), 99);
    }

    /** By how much one of a kind is eased by v. */
    private static void eased(int v, int kind, int number, int year, int want) {
        NobodyCanLiftIt x = Due.by("0", "0", "" + v);
        x.person(kind, number, 0);
        x.set(2, 0, year);
        Due.is("by how much kind " + kind + ", number " + number + " is eased by " + v + " in " + year,
            x.told(0, 9), want);
        Due.is("which is the ease behind one year", x.run(0, 1, 1), Math.min(99, want));
    }

    /** MAN: v; KING: 0; QUEEN: NUMBER. */
    private static void manKingAndQueenAreEased() {
        eased(0, 0, 9, 1, 0);
        eased(99, 0, 9, 1, 99);
        eased(99, 1, 9, 0, 0);
        eased(99, 3, 0, 0, 0);
        eased(0, 3, 9, 1, 9);
    }

    /** CHILD: 1 more than a MAN; KNITTER: twice a CHILD's; beyond 99, too, of which EASE is no more. */
    private static void childAndKnitterAreEased() {
        eased(0, 2, 9, 1, 1);
        eased(99, 2, 9, 1, 100);
        eased(0, 4, 9, 1, 2);
        eased(49, 4, 9, 1, 100);
        eased(99, 4, 9, 1, 200);
    }

    /** ENGINEER: as a MAN, in even YEARS, else 0; 0 is even, 999 is not, in thought 1000 is. */
    private static void engineerIsEased() {
        eased(7, 5, 9, 0, 7);
        eased(7, 5, 9, 1, 0);
        eased(7, 5, 9, 2, 7);
        eased(7, 5, 9, 998, 7);
        eased(7, 5, 9, 999, 0);
        NobodyCanLiftIt x = Due.by("0", "0", "1");
        x.person(5, 0, 0);
        x.set(2, 0, 999);
        int[] eases = {0, 0, 1, 1, 2};
        for (int n = 0; n < eases.length; n++) {
            Due.is("behind " + n + " from 999", x.run(0, n, 1), eases[n]);
        }
    }

    /** (EASE 99 at most.) */
    private static void easeIs99AtMost() {
        int[][] befores = {{0, 99, 99}, {1, 99, 99}, {98, 1, 99}, {97, 1, 98}, {99, 99, 99}, {99, 0, 99}, {98, 2, 99}};
        for (int[] b : befores) {
            NobodyCanLiftIt x = Due.by("0", "0", "" + b[1]);
            x.person(0, 0, 0);
            x.set(5, 0, b[0]);
            Due.is(b[0] + " and " + b[1] + " in thought", x.run(0, 1, 1), b[2]);
            x.year();
            Due.is(b[0] + " and " + b[1], x.told(0, 5), b[2]);
        }
    }

    /** Promise 1: Nobody, on the table: whatever was done to another object. */
    private static void objectsAreApart() {
        NobodyCanLiftIt x = Due.by("1", "2", "3");
        x.person(1, 2, 3);
        x.set(0, 0, 77);
        x.set(1, 0, 9);
        x.set(2, 0, 8);
        x.sheet(0, 0, 3);
        x.image();
        Due.feed(x, "abc");
        NobodyCanLiftIt y = new NobodyCanLiftIt();
        int[] counts = {0, 0, 0, 1, 0, 0};
        for (int what = 0; what < counts.length; what++) {
            Due.is("count " + what, y.count(what), counts[what]);
        }
        Due.is("load", y.told(0, 0), 5);
        Due.is("on", y.told(0, 1), 0);
        Due.is("no image", y.back(), NobodyCanLiftIt.STATE);
        Due.is("no sheet", y.cell(0, 0, 0), -11);
        Due.is("no text 1", y.force(1), BAD);
        y.person(0, 0, 50);
        Due.is("by text 0", y.feels(0, 0), 10);
        Due.is("the other one's is as it was", x.told(0, 8), 4);
    }

    /** An object is used for at most 512 calls: the last one is answered as the first. */
    private static void the512thCallIsAnswered() {
        NobodyCanLiftIt x = new NobodyCanLiftIt();
        x.person(5, 0, 0);
        for (int call = 2; call <= 511; call++) {
            Due.is("call " + call + ": 10 is held by the second floor", x.year(), 1);
        }
        Due.is("years", x.count(2), 510);
    }
}
