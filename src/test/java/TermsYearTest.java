/** Terms, part 2: what each sentence names as a bound, one test for each. */
public final class TermsYearTest {
    private static final int NONE = NobodyCanLiftIt.NONE, STATE = NobodyCanLiftIt.STATE;
    private static final String TEXT = "feels 99; strong 0; eases 0;";

    public static void main(String[] args) {
        moreThanTheLoad();
        behindNineTheRock();
        toldAheadAsAllIs();
        whoIsHereIsEased();
        allAreOlder();
        yearIsOneMore();
        whoCanLift();
        whoCanLiftByParts();
        lifted();
        yearsInThought();
        yearsPass999();
        liftedBehind60AtMost();
        downBehind60AtMost();
        downAtItsBounds();
        leaveNone();
        leaveFewest();
        leaveTheLeastOfLikeOnes();
        leaveNobodyCan();
        propIfHigher();
        propTheFirst();
        propAtItsBounds();
        lightestTheFirst();
        lightestOfNobody();
        sitTheFirst();
        sitOfNobody();
        whoComesIsOneOther();
        toldFirstOtherwise();
        toldByTwentyAtMost();
        toldKindsAtTheirBounds();
        toldNumbersAtTheirBounds();
        toldAgesAtTheirBounds();
        toldEasesAtTheirBounds();
        toldTextsAtTheirBounds();
        toldPeopleEachAlone();
        drawnNumbers();
        drawnWraps();
        drawnAtItsBounds();
        seedsOneMoreEach();
        imageKeepsAtTheBounds();
        imageForgetsWhoCame();
        Due.end();
    }

    /** One engineer by a text: he feels v whatever his NUMBER. */
    private static NobodyCanLiftIt engineerBy(String feels, String strong, String eases) {
        NobodyCanLiftIt x = Due.by(feels, strong, eases);
        x.person(5, 0, 0);
        return x;
    }

    /** is WEIGHT more than LOAD of the FLOOR it lies ON, it goes through: as heavy is held, a part more is not. */
    private static void moreThanTheLoad() {
        for (int f = 0; f < 10; f++) {
            NobodyCanLiftIt x = engineerBy("age", "0", "0");
            x.set(1, 0, f);
            x.set(4, 0, 5 * f + 5);
            Due.is("as heavy as the load", x.run(0, 1, 0), f);
            x.set(4, 0, 5 * f + 6);
            Due.is("one more", x.run(0, 1, 0), f + 1);
        }
        NobodyCanLiftIt part = Due.by("(number < 9)*4 + 1", "0", "0");
        part.person(0, 0, 0);
        part.person(4, 9, 9);
        Due.is("5 and a sixtieth", part.run(0, 1, 0), 1);
        part.set(6, 1, 0);
        Due.is("5", part.run(0, 1, 0), 0);
        part.set(6, 1, 1);
        part.set(6, 0, 0);
        part.set(0, 0, 0);
        Due.is("a sixtieth, no load", part.run(0, 1, 0), 1);
        part.set(6, 1, 0);
        Due.is("nothing, no load", part.run(0, 1, 0), 0);
        part.set(0, 0, 999);
        for (int i = 0; i < 3; i++) {
            part.person(1, 0, 0);
        }
        part.force(Due.read(part, "feels 99; strong 0; eases 0;"));
        Due.is("the largest load holds", part.run(0, 60, 0), 0);
    }

    /** it lies ON the next one (behind 9 the ROCK; on the ROCK it stays). */
    private static void behindNineTheRock() {
        NobodyCanLiftIt x = engineerBy("99", "0", "0");
        for (int f = 1; f <= 10; f++) {
            Due.is("one floor a year", x.year(), f);
        }
        Due.is("on the rock", x.year(), 10);
        Due.is("on the rock still", x.year(), 10);
        Due.is("on the rock in thought", x.run(0, 60, 0), 10);
        Due.is("as heavy as ever", x.weight(0), 99);
        x.set(1, 0, 9);
        Due.is("from 9 in thought", x.run(0, 60, 0), 10);
    }

    /** told as all is: by the EASE, AGE, FLOOR and YEAR that were. */
    private static void toldAheadAsAllIs() {
        NobodyCanLiftIt queen = new NobodyCanLiftIt();
        queen.person(3, 9, 0);
        queen.set(0, 0, 1);
        queen.set(0, 1, 0);
        Due.is("2, ahead of an ease of 9", queen.year(), 1);
        Due.is("ease", queen.told(0, 5), 9);
        Due.is("nothing behind it", queen.year(), 1);
        NobodyCanLiftIt child = new NobodyCanLiftIt();
        child.person(2, 0, 8);
        child.set(0, 0, 0);
        Due.is("nothing at 8", child.year(), 0);
        Due.is("5 at 9", child.year(), 1);
        NobodyCanLiftIt x = engineerBy("99", "0", "floor*10 + (year = 2)*3 + (age = 0)*50");
        x.person(0, 0, 1);
        x.year();
        Due.is("on floor 0, at 0", x.told(0, 5), 50);
        Due.is("on floor 0, at 1", x.told(1, 5), 0);
        x.year();
        Due.is("in an odd year", x.told(0, 5), 50);
        Due.is("on floor 1, in year 1", x.told(1, 5), 10);
        x.year();
        Due.is("on floor 2, in year 2", x.told(0, 5), 73);
    }

    /** all who are HERE are EASED (told ahead); who isn't is not. */
    private static void whoIsHereIsEased() {
        NobodyCanLiftIt x = Due.by("0", "0", "others + 1");
        for (int i = 0; i < 5; i++) {
            x.person(0, 0, 0);
        }
        x.set(6, 0, 0);
        x.set(6, 4, 0);
        x.year();
        int[] eases = {0, 3, 3, 3, 0};
        for (int i = 0; i < 5; i++) {
            Due.is("ease of " + i, x.told(i, 5), eases[i]);
        }
        NobodyCanLiftIt y = Due.by("0", "0", "ease + 1");
        y.person(0, 0, 0);
        y.year();
        y.year();
        Due.is("by the ease that was", y.told(0, 5), 3);
    }

    /** AGE of all is 1 more (999 at most): who isn't HERE, too. */
    private static void allAreOlder() {
        NobodyCanLiftIt x = new NobodyCanLiftIt();
        int[] ages = {0, 997, 998, 999, 999};
        for (int age : ages) {
            x.person(0, 0, age);
        }
        x.set(6, 0, 0);
        x.set(6, 4, 0);
        x.year();
        int[] then = {1, 998, 999, 999, 999};
        for (int i = 0; i < 5; i++) {
            Due.is("age of " + ages[i], x.told(i, 4), then[i]);
        }
        NobodyCanLiftIt y = engineerBy("age = 999", "0", "0");
        y.set(4, 0, 998);
        y.set(0, 0, 0);
        Due.is("998 is not 999", y.run(0, 1, 0), 0);
        Due.is("then 999", y.run(0, 2, 0), 1);
        y.set(0, 1, 0);
        Due.is("then 999 again", y.run(0, 3, 0), 2);
    }

    /** YEAR is 1 more. */
    private static void yearIsOneMore() {
        NobodyCanLiftIt x = new NobodyCanLiftIt();
        x.year();
        Due.is("1", x.count(2), 1);
        x.set(2, 0, 997);
        x.year();
        Due.is("998", x.count(2), 998);
        x.year();
        Due.is("999", x.count(2), 999);
        Due.is("no more", x.year(), STATE);
        Due.is("999 still", x.count(2), 999);
    }

    /** One CAN LIFT it, if one is HERE, and is STRONG as it is heavy, or more. */
    private static void whoCanLift() {
        NobodyCanLiftIt x = Due.by("10", "age", "0");
        x.person(0, 0, 9);
        Due.is("9 of 10", x.told(0, 10), 0);
        Due.is("can't", x.lift(0), STATE);
        x.set(4, 0, 10);
        Due.is("10 of 10", x.told(0, 10), 1);
        x.set(4, 0, 11);
        Due.is("11 of 10", x.told(0, 10), 1);
        x.set(6, 0, 0);
        Due.is("11 of nothing, not here", x.told(0, 10), 0);
        Due.is("can't, not here", x.lift(0), STATE);
        NobodyCanLiftIt y = Due.by("0", "0", "0");
        y.person(0, 0, 0);
        Due.is("0 of 0", y.told(0, 10), 1);
        Due.is("lifts", y.lift(0), 0);
    }

    /** as heavy as it is: exactly, a sixtieth more is too heavy, a tenth less is not. */
    private static void whoCanLiftByParts() {
        NobodyCanLiftIt x = Due.by("(number < 9)*9 + 1", "age", "0");
        x.person(0, 0, 10);
        x.person(4, 9, 9);
        Due.is("10 of 10 and a sixtieth", x.told(0, 10), 0);
        x.set(4, 0, 11);
        Due.is("11 of it", x.told(0, 10), 1);
        NobodyCanLiftIt y = Due.by("99", "9 + (year = 1)", "0");
        y.person(0, 9, 0);
        Due.is("9 of 99 tenths", y.told(0, 10), 0);
        y.set(2, 0, 1);
        Due.is("10 of 99 tenths", y.told(0, 10), 1);
    }

    /** LIFTED, truly: it lies ON FLOOR 0, from wherever; nothing else becomes otherwise. */
    private static void lifted() {
        NobodyCanLiftIt x = Due.by("0", "0", "7");
        x.person(0, 3, 4);
        x.set(2, 0, 5);
        for (int f = 0; f <= 10; f++) {
            x.set(1, 0, f);
            Due.is("what it lay on", x.lift(0), f);
            Due.is("on the first", x.told(0, 1), 0);
        }
        Due.is("year", x.count(2), 5);
        Due.is("number", x.told(0, 3), 3);
        Due.is("age", x.told(0, 4), 4);
        Due.is("ease", x.told(0, 5), 0);
        Due.is("here", x.told(0, 6), 1);
    }

    /** n YEARS (0 .. 60), in thought. */
    private static void yearsInThought() {
        NobodyCanLiftIt x = engineerBy("99 - (year = 59)*99", "0", "1");
        x.set(0, 9, 99);
        Due.is("behind 0", x.run(0, 0, 0), 0);
        Due.is("ease behind 0", x.run(0, 0, 1), 0);
        Due.is("ease behind 1", x.run(0, 1, 1), 1);
        Due.is("ease behind 60", x.run(0, 60, 1), 30);
        Due.is("behind 60", x.run(0, 60, 0), 9);
        Due.is("weight behind 0", x.heavy(0, 0), 99);
        Due.is("weight behind 58", x.heavy(58, 0), 99);
        Due.is("weight behind 59", x.heavy(59, 0), 0);
        Due.is("weight behind 60", x.heavy(60, 0), 99);
        for (int n : Due.outside(0, 60)) {
            Due.is("run behind " + n, x.run(0, n, 0), NobodyCanLiftIt.BAD);
            Due.is("heavy behind " + n, x.heavy(n, 0), Due.NO);
        }
        Due.is("all is as it was: on", x.told(0, 1), 0);
        Due.is("all is as it was: year", x.count(2), 0);
        Due.is("all is as it was: age", x.told(0, 4), 0);
        Due.is("all is as it was: ease", x.told(0, 5), 0);
    }

    /** (there YEAR may pass 999): in run, heavy, when, prop, sit, tells, film, drawn, chance. */
    private static void yearsPass999() {
        NobodyCanLiftIt x = engineerBy("(999 < year)*99", "0", "(999 < year)*3");
        x.person(0, 9, 0);
        x.set(6, 1, 0);
        x.set(2, 0, 999);
        Due.is("999: held", x.run(0, 1, 0), 0);
        Due.is("1000: through", x.run(0, 2, 0), 1);
        Due.is("eased in 1000", x.run(0, 2, 1), 3);
        Due.is("weight in 999", x.heavy(0, 0), 0);
        Due.is("weight in 1000", x.heavy(1, 0), 99);
        Due.is("down behind 11", x.when(10, 1), 11);
        NobodyCanLiftIt man = Due.by("9", "(year = 1059)*9", "0");
        man.person(0, 0, 0);
        man.set(2, 0, 999);
        Due.is("strong in 1059 alone", man.when(0, 0), 60);
        Due.is("propped", x.prop(2, 99, 0), 0);
        Due.is("one sits by: on", x.sit(3, 1), 2);
        Due.is("filmed", x.film(0, 3), 3);
        Due.is("as told", x.tells(0, 0, 0), NONE);
        Due.fill(x, 1, 0, 0, 1, 2);
        Due.is("0, 1, 2", x.tells(1, 0, 0), NONE);
        NobodyCanLiftIt d = engineerBy("(1000 < year)*99", "0", "0");
        d.set(2, 0, 999);
        // By seed 3 the first draws are 5, 2, 6, so that nobody goes.
        Due.is("drawn behind 2", d.drawn(3, 2), 0);
        Due.is("drawn behind 3", d.drawn(3, 3), 1);
        Due.is("the year stays", x.count(2), 999);
    }

    /** WHEN (one): behind how many YEARS (0 .. 60) one CAN LIFT it first; NONE. */
    private static void liftedBehind60AtMost() {
        int[][] cases = {{0, 0}, {1, 1}, {59, 59}, {60, 60}, {61, NONE}};
        for (int[] c : cases) {
            NobodyCanLiftIt x = Due.by("9", "(year = " + c[0] + ")*9", "0");
            x.person(0, 0, 0);
            Due.is("in year " + c[0], x.when(0, 0), c[1]);
            NobodyCanLiftIt y = Due.by("9", "(" + c[0] + " < year + 1)*9", "0");
            y.person(0, 0, 0);
            Due.is("first in year " + c[0], y.when(0, 0), c[1]);
        }
        NobodyCanLiftIt x = Due.by("0", "0", "0");
        x.person(0, 0, 0);
        Due.is("at once", x.when(0, 0), 0);
        x.set(6, 0, 0);
        Due.is("who isn't here", x.when(0, 0), NONE);
    }

    /** DOWN: behind how many YEARS (0 .. 60) it lies ON f or lower first; NONE. */
    private static void downBehind60AtMost() {
        int[][] cases = {{0, 1}, {1, 2}, {58, 59}, {59, 60}, {60, NONE}};
        for (int[] c : cases) {
            NobodyCanLiftIt x = engineerBy("(year = " + c[0] + ")*99", "0", "0");
            Due.is("through in year " + c[0], x.when(1, 1), c[1]);
            Due.is("no further", x.when(2, 1), NONE);
        }
    }

    /** DOWN (a FLOOR f 0 .. 10): it lies ON f or lower. */
    private static void downAtItsBounds() {
        NobodyCanLiftIt x = engineerBy("0", "0", "0");
        for (int on = 0; on <= 10; on++) {
            x.set(1, 0, on);
            for (int f = 0; f <= 10; f++) {
                Due.is("on " + on + ", down to " + f, x.when(f, 1), f <= on ? 0 : NONE);
            }
        }
        for (int f : Due.outside(0, 10)) {
            Due.is("down to " + f, x.when(f, 1), NobodyCanLiftIt.BAD);
        }
    }

    private static void leave(String when, NobodyCanLiftIt x, int bits, int many) {
        Due.is("leave, " + when, x.best(0), bits);
        Due.is("how many, " + when, x.best(1), many);
    }

    /** LEAVE: the set of fewest of those HERE (none, too). */
    private static void leaveNone() {
        NobodyCanLiftIt x = Due.by("10", "age", "0");
        x.person(0, 0, 10);
        leave("one who can", x, 0, 0);
        x.person(0, 9, 11);
        leave("the second can", x, 0, 0);
    }

    /** the set of fewest: of five all but one. */
    private static void leaveFewest() {
        for (int strong = 0; strong < 5; strong++) {
            NobodyCanLiftIt x = Due.by("10", "age", "0");
            for (int i = 0; i < 5; i++) {
                x.person(5, 0, i == strong ? 5 : 0);
            }
            x.set(0, 0, 0);
            x.set(4, strong, 10);
            leave("all but " + strong, x, 31 - (1 << strong), 4);
            x.set(4, strong, 9);
            leave("9 of 10", x, NONE, NONE);
        }
        NobodyCanLiftIt f = Due.by("number*10", "age", "0");
        int[] weights = {1, 1, 1, 1, 4};
        for (int w : weights) {
            f.person(5, w, 0);
        }
        f.set(0, 0, 0);
        f.set(4, 0, 40);
        leave("one heavy one, rather than four light ones", f, 16, 1);
        f.set(6, 4, 0);
        leave("who isn't here can't leave", f, 0, 0);
        f.set(4, 0, 29);
        leave("of those here", f, 6, 2);
    }

    /** of like ones the least as bits. */
    private static void leaveTheLeastOfLikeOnes() {
        NobodyCanLiftIt x = Due.by("10", "age", "0");
        for (int i = 0; i < 5; i++) {
            x.person(0, 0, 30);
        }
        leave("of five two", x, 3, 2);
        x.set(6, 0, 0);
        leave("of four one", x, 2, 1);
        x.set(4, 1, 20);
        leave("of four one, another strong", x, 2, 1);
        x.set(6, 0, 1);
        x.set(4, 0, 40);
        for (int i = 1; i < 5; i++) {
            x.set(4, i, 0);
        }
        leave("who is strong stays", x, 2, 1);
    }

    /** somebody CAN LIFT it; NONE: also where nobody stays. */
    private static void leaveNobodyCan() {
        NobodyCanLiftIt x = Due.by("10", "9", "0");
        leave("nobody came", x, NONE, NONE);
        x.person(0, 0, 0);
        leave("too weak alone; gone, nobody lifts", x, NONE, NONE);
        x.set(6, 0, 0);
        leave("nobody is here", x, NONE, NONE);
    }

    /** PROP: highest (the least number), if higher than so; NONE. */
    private static void propIfHigher() {
        NobodyCanLiftIt x = engineerBy("20", "0", "0");
        Due.is("held by the fourth", x.run(0, 40, 0), 3);
        Due.is("4 more hold nowhere", x.prop(40, 4, 0), NONE);
        Due.is("on, as so", x.prop(40, 4, 1), 3);
        Due.is("5 more hold on the third", x.prop(40, 5, 0), 2);
        Due.is("on", x.prop(40, 5, 1), 2);
        Due.is("14 more hold on the second", x.prop(40, 14, 0), 1);
        Due.is("15 more hold on the first", x.prop(40, 15, 0), 0);
        Due.is("on", x.prop(40, 15, 1), 0);
        x.set(1, 0, 10);
        Due.is("on the rock nothing helps", x.prop(40, 99, 0), NONE);
        Due.is("on the rock", x.prop(40, 99, 1), 10);
        x.set(1, 0, 9);
        x.set(0, 9, 0);
        Due.is("the lowest floor", x.prop(1, 20, 0), 9);
        Due.is("on it", x.prop(1, 20, 1), 9);
        Due.is("a load of 19 there", x.prop(1, 19, 0), NONE);
        Due.is("the rock then", x.prop(1, 19, 1), 10);
    }

    /** of like ones the first: a later floor that holds it as high is not told. */
    private static void propTheFirst() {
        NobodyCanLiftIt x = engineerBy("(year = 0)*30 + (year = 3)*50 + (year = 4)*90", "0", "0");
        // So it goes through 0 in year 0, through 1 in year 3, through 2 in year 4.
        Due.is("as so", x.run(0, 40, 0), 3);
        // With 25 more the first floor holds in year 0, and the second, of 35, does not in year 3.
        Due.is("the first", x.prop(40, 25, 0), 0);
        Due.is("on", x.prop(40, 25, 1), 2);
        x.set(0, 1, 30);
        Due.is("the second holds in year 3, too", x.prop(40, 25, 1), 2);
        Due.is("of like ones the first", x.prop(40, 25, 0), 0);
        Due.is("with 24 the first does not hold", x.prop(40, 24, 0), 1);
    }

    /** PROP (n 0 .. 40, a LOAD k 1 .. 99) (999 at most). */
    private static void propAtItsBounds() {
        NobodyCanLiftIt x = engineerBy("(year = 39)*6", "0", "0");
        Due.is("behind 0", x.prop(0, 1, 0), NONE);
        Due.is("behind 39 nothing is higher", x.prop(39, 1, 0), NONE);
        Due.is("behind 40, by 1", x.prop(40, 1, 0), 0);
        Due.is("on", x.prop(40, 1, 1), 0);
        for (int n : Due.outside(0, 40)) {
            Due.is("behind " + n, x.prop(n, 1, 0), NobodyCanLiftIt.BAD);
        }
        for (int k : Due.outside(1, 99)) {
            Due.is("by " + k, x.prop(40, k, 0), NobodyCanLiftIt.BAD);
        }
        NobodyCanLiftIt y = Due.by("99", "0", "0");
        y.person(5, 0, 0);
        y.set(0, 0, 0);
        Due.is("by 99", y.prop(1, 99, 0), 0);
        Due.is("by 98", y.prop(1, 98, 0), NONE);
        for (int i = 0; i < 4; i++) {
            y.person(1, 0, 0);
        }
        y.set(0, 0, 999);
        Due.is("999 stays, and holds", y.prop(1, 99, 1), 0);
        y.set(0, 0, 890);
        Due.is("891 by 890", y.prop(1, 1, 0), 0);
        Due.is("the load stays", y.told(0, 0), 890);
    }

    /** LIGHTEST: who HERE, being gone, makes it lightest, of like ones the first. */
    private static void lightestTheFirst() {
        NobodyCanLiftIt x = Due.by("number", "0", "0");
        int[] numbers = {3, 5, 5, 0, 5};
        for (int number : numbers) {
            x.person(5, number, 0);
        }
        Due.is("of like ones the first", x.best(2), 1);
        x.set(6, 1, 0);
        Due.is("of those here", x.best(2), 2);
        x.set(3, 4, 6);
        Due.is("the heaviest", x.best(2), 4);
        x.set(6, 4, 0);
        x.set(6, 2, 0);
        Due.is("the first", x.best(2), 0);
        x.set(6, 0, 0);
        Due.is("one who feels nothing", x.best(2), 3);
        NobodyCanLiftIt p = new NobodyCanLiftIt();
        p.person(4, 9, 9);
        p.person(4, 8, 9);
        Due.is("by a part of 270", p.best(2), 1);
    }

    /** NONE: nobody is HERE. */
    private static void lightestOfNobody() {
        NobodyCanLiftIt x = new NobodyCanLiftIt();
        Due.is("nobody came", x.best(2), NONE);
        x.person(0, 0, 0);
        x.set(6, 0, 0);
        Due.is("nobody is here", x.best(2), NONE);
        x.set(6, 0, 1);
        Due.is("one is", x.best(2), 0);
    }

    /** SIT (n 0 .. 40): who isn't HERE, HERE from now on, would have it lie highest, of like ones the first. */
    private static void sitTheFirst() {
        NobodyCanLiftIt x = Due.by("number*5", "0", "0");
        int[] numbers = {1, 4, 2, 2, 3};
        for (int number : numbers) {
            x.person(5, number, 0);
        }
        for (int i = 1; i < 5; i++) {
            x.set(6, i, 0);
        }
        Due.is("15 by the third or fourth", x.sit(40, 0), 2);
        Due.is("on", x.sit(40, 1), 2);
        Due.is("behind 0 all are like", x.sit(0, 0), 1);
        Due.is("behind 0", x.sit(0, 1), 0);
        Due.is("behind 1 all are like", x.sit(1, 0), 1);
        Due.is("behind 3 the second is lower", x.sit(3, 0), 2);
        x.set(6, 2, 1);
        x.set(6, 3, 1);
        Due.is("of the others the lighter", x.sit(40, 0), 4);
        for (int n : Due.outside(0, 40)) {
            Due.is("behind " + n, x.sit(n, 0), NobodyCanLiftIt.BAD);
        }
        NobodyCanLiftIt late = Due.by("(year = 39)*number*6", "0", "0");
        late.person(5, 1, 0);
        late.person(5, 0, 0);
        late.set(6, 0, 0);
        late.set(6, 1, 0);
        Due.is("behind 39 both are like", late.sit(39, 0), 0);
        Due.is("behind 40 the second is higher", late.sit(40, 0), 1);
    }

    /** NONE, if nobody isn't HERE. */
    private static void sitOfNobody() {
        NobodyCanLiftIt x = new NobodyCanLiftIt();
        Due.is("nobody came", x.sit(40, 0), NONE);
        Due.is("nobody came, on", x.sit(40, 1), NONE);
        x.person(0, 0, 0);
        Due.is("all are here", x.sit(40, 0), NONE);
        Due.is("all are here, on", x.sit(40, 1), NONE);
        x.set(6, 0, 0);
        Due.is("one isn't", x.sit(40, 0), 0);
        Due.is("one isn't, on", x.sit(40, 1), 1);
    }

    /** others: who comes or goes in thought is one other, no more: in SIT, LEAVE, LIGHTEST, TOLD, DRAWN. */
    private static void whoComesIsOneOther() {
        NobodyCanLiftIt x = Due.by("others*6", "6 - others*6", "0");
        x.person(5, 0, 0);
        x.person(0, 9, 0);
        x.set(6, 1, 0);
        // Alone one feels nothing; two feel 6 and 6/10, which the second floor holds.
        Due.is("as so", x.run(0, 9, 0), 0);
        Due.is("sits", x.sit(9, 0), 1);
        Due.is("on", x.sit(9, 1), 1);
        Due.fill(x, 0, 0, 1, 1);
        Due.is("told", x.tells(0, 0, 8), 2);
        // By seed 9 the first is numbered 1.
        Due.is("drawn", x.drawn(9, 1), 1);
        x.set(0, 0, 6);
        Due.is("more than 6", x.drawn(9, 1), 1);
        x.set(0, 0, 7);
        Due.is("less than 7", x.drawn(9, 1), 0);
        x.set(6, 1, 1);
        x.set(0, 0, 0);
        Due.is("nobody is as strong", x.told(0, 10) + x.told(1, 10), 0);
        Due.is("the first alone is enough to leave", x.best(0), 1);
        Due.is("one", x.best(1), 1);
        Due.is("who stays feels nothing", x.best(2), 0);
    }

    /** the first (from 0) that is otherwise; NONE. */
    private static void toldFirstOtherwise() {
        NobodyCanLiftIt x = engineerBy("99", "0", "0");
        Due.fill(x, 0, 0, 1, 2, 3, 4);
        Due.is("all so", x.tells(0, 0, 0), NONE);
        for (int i = 3; i >= 0; i--) {
            x.cell(0, i, 0);
            Due.is("the first", x.tells(0, 0, 0), i);
        }
        x.sheet(0, 0, 0);
        Due.is("none is otherwise in an empty one", x.tells(0, 0, 0), NONE);
        Due.fill(x, 0, 2, Integer.MAX_VALUE);
        Due.is("no floor", x.tells(0, 0, 0), 0);
        Due.fill(x, 0, 2, -1);
        Due.is("no floor either", x.tells(0, 0, 0), 0);
        x.set(1, 0, 9);
        Due.fill(x, 0, 0, 10, 10);
        Due.is("the rock", x.tells(0, 0, 0), NONE);
    }

    /** behind 1, 2, .. YEARS (20 at most). */
    private static void toldByTwentyAtMost() {
        NobodyCanLiftIt x = engineerBy("(year = 19)*99", "0", "0");
        int[] told = new int[20];
        Due.fill(x, 0, 1, told);
        Due.is("the twentieth is otherwise", x.tells(0, 0, 0), 19);
        told[19] = 1;
        Due.fill(x, 0, 1, told);
        for (int what = 0; what < 9; what++) {
            Due.isTrue("twenty", x.tells(0, 0, what) != -2);
        }
        x.sheet(0, 1, 21);
        for (int what = 0; what < 9; what++) {
            Due.is("more than twenty", x.tells(0, 0, what), -2);
        }
    }

    /** KINDS (bits 0 .. 5) by which all would be so. */
    private static void toldKindsAtTheirBounds() {
        NobodyCanLiftIt x = Due.by("8", "0", "0");
        x.person(5, 0, 9);
        // 8, 16, 4, 16, 4/3, 8 by kind.
        int[][] loads = {{0, 63}, {1, 63}, {2, 47}, {4, 43}, {7, 43}, {8, 10}, {16, 0}};
        for (int[] l : loads) {
            x.set(0, 0, l[0]);
            Due.fill(x, 0, 0, 1);
            Due.is("through " + l[0], x.tells(0, 0, 1), l[1]);
            Due.fill(x, 0, 0, 0);
            Due.is("held by " + l[0], x.tells(0, 0, 1), 63 - l[1]);
        }
        x.sheet(0, 0, 0);
        Due.is("nothing is told", x.tells(0, 0, 1), 63);
        Due.is("the kind stays", x.told(0, 7), 5);
    }

    /** NUMBERS (bits 0 .. 9) by which all would be so. */
    private static void toldNumbersAtTheirBounds() {
        NobodyCanLiftIt x = Due.by("number", "0", "0");
        x.person(5, 4, 0);
        for (int load = 0; load < 10; load++) {
            x.set(0, 0, load);
            Due.fill(x, 0, 0, 0);
            Due.is("held by " + load, x.tells(0, 0, 2), (2 << load) - 1);
            Due.fill(x, 0, 0, 1);
            Due.is("through " + load, x.tells(0, 0, 2), 1023 - ((2 << load) - 1));
        }
        Due.is("the number stays", x.told(0, 3), 4);
    }

    /** AGES (of 0 .. 99: how many, the least). */
    private static void toldAgesAtTheirBounds() {
        NobodyCanLiftIt x = Due.by("age", "0", "0");
        x.person(5, 0, 500);
        int[] loads = {0, 1, 50, 97, 98, 99, 100};
        for (int load : loads) {
            x.set(0, 0, load);
            Due.fill(x, 0, 0, 0);
            Due.is("held by " + load, x.tells(0, 0, 3), Math.min(100, load + 1));
            Due.is("the least", x.tells(0, 0, 4), 0);
            Due.fill(x, 0, 0, 1);
            Due.is("through " + load, x.tells(0, 0, 3), Math.max(0, 99 - load));
            Due.is("the least", x.tells(0, 0, 4), load < 99 ? load + 1 : NONE);
        }
        Due.is("the age stays", x.told(0, 4), 500);
    }

    /** EASES (of 0 .. 99: how many, the least). */
    private static void toldEasesAtTheirBounds() {
        NobodyCanLiftIt x = Due.by("ease", "0", "0");
        x.person(5, 0, 0);
        x.set(5, 0, 50);
        int[] loads = {0, 1, 50, 97, 98, 99, 100};
        for (int load : loads) {
            x.set(0, 0, load);
            Due.fill(x, 0, 0, 0);
            Due.is("held by " + load, x.tells(0, 0, 5), Math.min(100, load + 1));
            Due.is("the least", x.tells(0, 0, 6), 0);
            Due.fill(x, 0, 0, 1);
            Due.is("through " + load, x.tells(0, 0, 5), Math.max(0, 99 - load));
            Due.is("the least", x.tells(0, 0, 6), load < 99 ? load + 1 : NONE);
        }
        Due.is("the ease stays", x.told(0, 5), 50);
    }

    /** TEXTS (bits), were they THE RULE: of one TEXT, of six. */
    private static void toldTextsAtTheirBounds() {
        NobodyCanLiftIt x = new NobodyCanLiftIt();
        x.person(5, 0, 0);
        Due.fill(x, 0, 0, 1);
        Due.is("10 of one text", x.tells(0, 0, 7), 1);
        for (int i = 1; i < 6; i++) {
            Due.read(x, "feels " + 2 * i + "; strong 0; eases 0;");
        }
        // 10, 2, 4, 6, 8, 10 by text.
        int[][] loads = {{0, 63}, {2, 61}, {4, 57}, {6, 49}, {8, 33}, {9, 33}, {10, 0}};
        for (int[] l : loads) {
            x.set(0, 0, l[0]);
            Due.is("through " + l[0], x.tells(0, 0, 7), l[1]);
        }
        x.force(3);
        x.set(0, 0, 9);
        Due.is("whatever the rule is", x.tells(0, 0, 7), 33);
        Due.is("the rule stays", x.count(5), 3);
    }

    /** PEOPLE (bits) such that, were just that one HERE now, who isn't, or not, who is, it would. */
    private static void toldPeopleEachAlone() {
        NobodyCanLiftIt x = Due.by("number", "0", "0");
        int[] numbers = {1, 2, 4, 8, 9};
        for (int number : numbers) {
            x.person(5, number, 0);
        }
        x.set(6, 3, 0);
        x.set(6, 4, 0);
        // 7 are felt now; 6, 5, 3, 15, 16 with one turned.
        int[][] loads = {{0, 31}, {3, 27}, {5, 25}, {6, 24}, {7, 24}, {14, 24}, {15, 16}, {16, 0}};
        for (int[] l : loads) {
            x.set(0, 0, l[0]);
            Due.fill(x, 0, 0, 1);
            Due.is("through " + l[0], x.tells(0, 2, 8), l[1]);
            Due.fill(x, 0, 0, 0);
            Due.is("held by " + l[0], x.tells(0, 4, 8), 31 - l[1]);
        }
        Due.is("who is here stays", x.best(3), 7);
        NobodyCanLiftIt one = new NobodyCanLiftIt();
        one.person(0, 0, 0);
        one.sheet(0, 0, 0);
        Due.is("no more than there are", one.tells(0, 0, 8), 1);
    }

    /** (z >>> 9) % 8, if there is one, is HERE, who wasn't, or not: by seed 0 that is 0, 3, 7, .. */
    private static void drawnNumbers() {
        for (int many = 0; many <= 5; many++) {
            for (int seed = -3; seed < 12; seed++) {
                NobodyCanLiftIt x = Due.by("number", "0", "0");
                for (int i = 0; i < many; i++) {
                    x.person(5, 1 << i >> 1, 0);
                }
                for (int f = 0; f < 10; f++) {
                    x.set(0, f, 7);
                }
                int bits = (1 << many) - 1;
                int on = 0;
                long z = seed & 0xffffffffL;
                for (int n = 1; n <= 40; n++) {
                    z = (z * 1103515245L + 12345L) % 4294967296L;
                    int one = (int) (z / 512 % 8);
                    bits ^= one < many ? 1 << one : 0;
                    // NUMBERS are 0, 1, 2, 4, 8.
                    on += (bits >> 1) > 7 && on < 10 ? 1 : 0;
                    Due.is("drawn(" + seed + ", " + n + ") of " + many, x.drawn(seed, n), on);
                }
            }
        }
    }

    /** z being z * 1103515245 + 12345 (an int): seeds at the bounds of an int. */
    private static void drawnWraps() {
        NobodyCanLiftIt x = Due.by("99", "0", "0");
        x.person(5, 0, 0);
        for (int seed : new int[] {Integer.MAX_VALUE, Integer.MIN_VALUE, -1, 1 << 30, 1103515245, -1103515245}) {
            boolean here = true;
            int on = 0;
            java.math.BigInteger z = java.math.BigInteger.valueOf(seed);
            java.math.BigInteger all = java.math.BigInteger.ONE.shiftLeft(32);
            for (int n = 1; n <= 12; n++) {
                z = z.multiply(java.math.BigInteger.valueOf(1103515245L)).add(java.math.BigInteger.valueOf(12345L)).mod(all);
                here ^= z.shiftRight(9).intValue() % 8 == 0;
                on = Math.min(10, on + (here ? 1 : 0));
                Due.is("drawn(" + seed + ", " + n + ")", x.drawn(seed, n), on);
            }
        }
    }

    /** DRAWN by a SEED: n YEARS (0 .. 40), in thought. */
    private static void drawnAtItsBounds() {
        NobodyCanLiftIt x = Due.by("(year = 39)*99", "0", "0");
        for (int i = 0; i < 5; i++) {
            x.person(5, 0, 0);
        }
        x.set(1, 0, 3);
        Due.is("behind 0", x.drawn(5, 0), 3);
        Due.is("behind 39", x.drawn(5, 39), 3);
        Due.is("behind 40", x.drawn(5, 40), 4);
        for (int n : Due.outside(0, 40)) {
            Due.is("behind " + n, x.drawn(5, n), NobodyCanLiftIt.BAD);
        }
        Due.is("all are here still", x.best(3), 31);
        Due.is("the year stays", x.count(2), 0);
        Due.is("the sword stays", x.told(0, 1), 3);
    }

    /** IN m seeds (1 .. 20), SEED and each 1 more (an int), 10 YEARS: of these those by which that is f or lower. */
    private static void seedsOneMoreEach() {
        int[] seeds = {0, -1, -5, Integer.MAX_VALUE, Integer.MAX_VALUE - 7, Integer.MIN_VALUE};
        for (int seed : seeds) {
            for (int m = 1; m <= 20; m++) {
                NobodyCanLiftIt each = engineerBy("99", "0", "0");
                for (int f = 5; f <= 10; f++) {
                    int low = 0;
                    for (int i = 0; i < m; i++) {
                        low += each.drawn((int) ((long) seed + i), 10) >= f ? 1 : 0;
                    }
                    java.math.BigInteger d = java.math.BigInteger.valueOf(low).gcd(java.math.BigInteger.valueOf(m));
                    Due.is("above in " + m + " from " + seed, each.chance(seed, m, f, 0), low / d.intValue());
                    Due.is("below in " + m + " from " + seed, each.chance(seed, m, f, 1), m / d.intValue());
                }
            }
        }
        NobodyCanLiftIt x = engineerBy("99", "0", "0");
        for (int m : Due.outside(1, 20)) {
            Due.is("in " + m, x.chance(0, m, 0, 0), Due.NO);
        }
        for (int f : Due.outside(0, 10)) {
            Due.is("down to " + f, x.chance(0, 1, f, 0), Due.NO);
        }
        Due.is("all are on 0 or lower", x.chance(0, 20, 0, 0), 1);
        Due.is("in lowest terms", x.chance(0, 20, 0, 1), 1);
        NobodyCanLiftIt none = new NobodyCanLiftIt();
        Due.is("none is on 1 or lower", none.chance(0, 20, 1, 0), 0);
        Due.is("in lowest terms, too", none.chance(0, 20, 1, 1), 1);
    }

    /** AN IMAGE keeps LOADS, what it lies ON, YEAR, NUMBERS, AGES, EASES, who is HERE, THE RULE. */
    private static void imageKeepsAtTheBounds() {
        NobodyCanLiftIt x = new NobodyCanLiftIt();
        Due.is("there is none", x.back(), STATE);
        int[] most = {999, 10, 999, 9, 999, 99, 1};
        Due.read(x, TEXT);
        x.force(1);
        for (int i = 0; i < 5; i++) {
            x.person(i, 0, 0);
        }
        x.image();
        for (int what = 0; what < 7; what++) {
            for (int of = 0; of < (what == 0 ? 10 : what < 3 ? 1 : 5); of++) {
                int was = x.told(of, what);
                x.set(what, of, was == most[what] ? 0 : most[what]);
                x.force(0);
                Due.is("back", x.back(), 5);
                Due.is("what " + what + " of " + of, x.told(of, what), was);
                Due.is("the rule", x.count(5), 1);
                x.set(what, of, was == most[what] ? 0 : most[what]);
                Due.is("image", x.image(), 5);
                x.set(what, of, was);
                x.back();
                Due.is("the newer what " + what + " of " + of, x.told(of, what), was == most[what] ? 0 : most[what]);
            }
        }
        for (int i = 0; i < 5; i++) {
            Due.is("kind", x.told(i, 7), i);
        }
    }

    /** (PEOPLE that came since go): all five, or none. */
    private static void imageForgetsWhoCame() {
        for (int many = 0; many <= 5; many++) {
            NobodyCanLiftIt x = new NobodyCanLiftIt();
            for (int i = 0; i < many; i++) {
                x.person(0, i, 0);
            }
            Due.is("image", x.image(), many);
            for (int i = many; i < 5; i++) {
                x.person(1, 9, 99);
            }
            Due.is("five", x.count(0), 5);
            Due.is("back", x.back(), many);
            Due.is("as many", x.count(0), many);
            Due.is("as many are here", x.count(1), many);
            Due.is("as bits", x.best(3), (1 << many) - 1);
            for (int i = 0; i < 5; i++) {
                Due.is("number of " + i, x.told(i, 3), i < many ? i : -2);
                Due.is("set of " + i, x.set(4, i, 7), i < many ? 0 : -2);
                Due.is("taken " + i, x.taken(i, 0), i < many ? i : -11);
            }
            Due.is("the next one", x.person(5, 8, 7), many < 5 ? many : -4);
        }
    }
}
