/** Promises 18 to 24: tells, film, drawn, chance, image, back, count. */
public final class ToldTest {
    public static void main(String[] args) {
        tellsRefused();
        otherwise();
        kindsAndNumbers();
        agesAndEases();
        textsAndPeople();
        filming();
        drawing();
        chances();
        images();
        peopleSinceGo();
        counts();
        Due.end();
    }

    private static void tellsRefused() {
        NobodyCanLiftIt x = new NobodyCanLiftIt();
        Due.is("none such, ahead of a missing sheet", x.tells(0, 0, 0), -2);
        x.person(0, 0, 0);
        Due.is("missing", x.tells(0, 0, 0), -11);
        for (int bad : new int[] {-1, 4, Integer.MAX_VALUE, Integer.MIN_VALUE}) {
            Due.is("no such sheet", x.tells(bad, 0, 0), -2);
        }
        for (int bad : new int[] {-1, 1, 5, Integer.MAX_VALUE, Integer.MIN_VALUE}) {
            Due.is("none such", x.tells(0, bad, 0), -2);
        }
        for (int bad : new int[] {-1, 9, Integer.MAX_VALUE, Integer.MIN_VALUE}) {
            Due.is("no such what", x.tells(0, 0, bad), -2);
        }
        x.sheet(1, 2, 21);
        Due.is("more than 20", x.tells(1, 0, 0), -2);
        x.sheet(1, 2, 20);
        Due.is("20: behind 1 it lies on 1", x.tells(1, 0, 0), 0);
        x.sheet(1, -1, 0);
        Due.is("missing again", x.tells(1, 0, 8), -11);
    }

    /** One man of NUMBER 0: on 1 behind 1 and ever. */
    private static void otherwise() {
        NobodyCanLiftIt x = new NobodyCanLiftIt();
        x.person(0, 0, 0);
        Due.fill(x, 0, 2, 1, 1, 1);
        Due.is("all so", x.tells(0, 0, 0), -1);
        x.cell(0, 2, 2);
        Due.is("the last is otherwise", x.tells(0, 0, 0), 2);
        x.cell(0, 0, -1);
        Due.is("the first is otherwise", x.tells(0, 0, 0), 0);
        Due.is("no kind", x.tells(0, 0, 1), 0);
        Due.is("no number", x.tells(0, 0, 2), 0);
        Due.is("no age", x.tells(0, 0, 3), 0);
        Due.is("no least age", x.tells(0, 0, 4), -1);
        Due.is("no ease", x.tells(0, 0, 5), 0);
        Due.is("no least ease", x.tells(0, 0, 6), -1);
        Due.is("no text", x.tells(0, 0, 7), 0);
        Due.is("nobody", x.tells(0, 0, 8), 0);
        // 257 is 1 in a byte, and itself in a short.
        Due.fill(x, 1, 0, 257, 1);
        Due.is("bytes", x.tells(1, 0, 0), -1);
        Due.fill(x, 1, 1, 257, 1);
        Due.is("shorts", x.tells(1, 0, 0), 0);
        Due.fill(x, 1, 1, 65537, 1);
        Due.is("a short's lowest 16", x.tells(1, 0, 0), -1);
        Due.fill(x, 1, 2, 65537, 1);
        Due.is("ints", x.tells(1, 0, 0), 0);
        x.set(2, 0, 999);
        Due.is("years pass 999", x.tells(0, 0, 0), 0);
        x.sheet(2, 0, 0);
        int[] all = {-1, 63, 1023, 100, 0, 100, 0, 1, 1};
        for (int what = 0; what < all.length; what++) {
            Due.is("an empty sheet, " + what, x.tells(2, 0, what), all[what]);
        }
    }

    /** Kinds of NUMBER 1, AGE 20, EASE 0 feel 5, 10, 5/2, 10, 5/6, 10 of 10. */
    private static void kindsAndNumbers() {
        NobodyCanLiftIt x = new NobodyCanLiftIt();
        x.person(0, 1, 20);
        Due.fill(x, 0, 0, 0);
        Due.is("5 is held", x.tells(0, 0, 1), 1 + 4 + 16);
        Due.fill(x, 0, 0, 1);
        Due.is("10 is not", x.tells(0, 0, 1), 2 + 8 + 32);
        Due.fill(x, 0, 0, 1, 2);
        Due.is("10 is held by the next", x.tells(0, 0, 1), 0);
        x.set(0, 1, 9);
        Due.is("10 goes on, but the queen got used to it: 9", x.tells(0, 0, 1), 2 + 32);
        // A man of NUMBER 0 feels 10, of 1 5, of others less.
        Due.fill(x, 0, 0, 1);
        Due.is("NUMBER 0", x.tells(0, 0, 2), 1);
        Due.fill(x, 0, 0, 0);
        Due.is("all others", x.tells(0, 0, 2), 1022);
        x.set(0, 0, 1);
        Due.is("1 is held of 9 on", x.tells(0, 0, 2), 512);
        x.set(6, 0, 0);
        Due.is("who is gone may be any", x.tells(0, 0, 2), 1023);
        Due.is("of any kind", x.tells(0, 0, 1), 63);
        Due.is("the kind stays", x.told(0, 7), 0);
        Due.is("the number stays", x.told(0, 3), 1);
    }

    private static void agesAndEases() {
        NobodyCanLiftIt x = new NobodyCanLiftIt();
        x.person(2, 0, 50);
        x.set(0, 0, 4);
        // A child feels 5 from 9 on; it falls behind the third year first, if it is 7 now.
        Due.fill(x, 0, 2, 0, 0, 1);
        Due.is("one age", x.tells(0, 0, 3), 1);
        Due.is("which is 7", x.tells(0, 0, 4), 7);
        Due.fill(x, 0, 2, 0, 0);
        Due.is("0 .. 7", x.tells(0, 0, 3), 8);
        Due.is("from 0 on", x.tells(0, 0, 4), 0);
        Due.fill(x, 0, 2, 1, 1);
        Due.is("9 .. 99", x.tells(0, 0, 3), 91);
        Due.is("from 9 on", x.tells(0, 0, 4), 9);
        Due.is("the age stays", x.told(0, 4), 50);
        x.force(Due.read(x, "feels (99 < age)*99; strong 0; eases 0;"));
        Due.fill(x, 0, 2, 1);
        Due.is("of 0 .. 99 none", x.tells(0, 0, 3), 0);
        Due.is("of 0 .. 99 no least", x.tells(0, 0, 4), -1);
        Due.fill(x, 0, 2, 0, 1);
        Due.is("99 alone", x.tells(0, 0, 3), 1);
        Due.is("which is 99", x.tells(0, 0, 4), 99);
        NobodyCanLiftIt q = new NobodyCanLiftIt();
        q.person(3, 3, 20);
        q.set(5, 0, 42);
        q.set(0, 0, 0);
        // A queen feels 5 less EASE, by 3 less each year.
        Due.fill(q, 0, 2, 1);
        Due.is("0 .. 4", q.tells(0, 0, 5), 5);
        Due.is("from 0 on", q.tells(0, 0, 6), 0);
        Due.fill(q, 0, 2, 0);
        Due.is("5 .. 99", q.tells(0, 0, 5), 95);
        Due.is("from 5 on", q.tells(0, 0, 6), 5);
        q.set(0, 1, 1);
        Due.fill(q, 0, 2, 1, 2);
        Due.is("ease 0 alone falls twice", q.tells(0, 0, 5), 1);
        Due.fill(q, 0, 2, 1, 1);
        Due.is("1 .. 4 fall once", q.tells(0, 0, 5), 4);
        Due.is("from 1 on", q.tells(0, 0, 6), 1);
        Due.is("the ease stays", q.told(0, 5), 42);
    }

    private static void textsAndPeople() {
        NobodyCanLiftIt x = new NobodyCanLiftIt();
        Due.read(x, "feels 5; strong 0; eases 0;");
        Due.read(x, "feels 6; strong 0; eases 0;");
        Due.read(x, "feels 60; strong 0; eases 0;");
        x.person(0, 0, 0);
        Due.fill(x, 0, 1, 0, 0);
        Due.is("5 alone is held", x.tells(0, 0, 7), 2);
        Due.fill(x, 0, 1, 1, 1);
        Due.is("6 and 10", x.tells(0, 0, 7), 1 + 4);
        Due.fill(x, 0, 1, 1, 2);
        Due.is("60", x.tells(0, 0, 7), 8);
        Due.is("the rule stays", x.count(5), 0);
        x.person(0, 1, 0);
        x.person(0, 0, 0);
        x.set(6, 2, 0);
        // 10 and 5 now; 5, 10 or 25 if one comes or goes.
        Due.fill(x, 0, 1, 1, 2);
        Due.is("as it is", x.tells(0, 0, 0), -1);
        Due.is("25", x.tells(0, 0, 8), 4);
        Due.fill(x, 0, 1, 1, 1);
        Due.is("10", x.tells(0, 1, 8), 2);
        Due.fill(x, 0, 1, 0, 0);
        Due.is("5", x.tells(0, 2, 8), 1);
        Due.is("who is here stays", x.best(3), 3);
        // Each feels 6 by every other one: 12 by two are held by the third floor, and so told.
        NobodyCanLiftIt o = new NobodyCanLiftIt();
        o.force(Due.read(o, "feels others*6; strong 0; eases 0;"));
        o.person(5, 0, 0);
        o.person(5, 0, 0);
        o.set(6, 1, 0);
        Due.fill(o, 0, 0, 1, 2, 2);
        Due.is("the second comes", o.tells(0, 0, 8), 2);
        o.set(6, 0, 0);
        o.set(6, 1, 1);
        Due.is("the first comes", o.tells(0, 0, 8), 1);
        o.set(1, 0, 2);
        Due.is("drawn, the first comes: 12", o.drawn(0, 1), 2);
        o.set(0, 2, 11);
        Due.is("drawn, the first comes: more than 11", o.drawn(0, 1), 3);
    }

    private static void filming() {
        NobodyCanLiftIt x = new NobodyCanLiftIt();
        x.force(Due.read(x, "feels (year < 2 or year = 3)*99; strong 0; eases 0;"));
        x.person(0, 0, 0);
        for (int bad : new int[] {-1, 4, Integer.MAX_VALUE, Integer.MIN_VALUE}) {
            Due.is("no such sheet", x.film(bad, 0), -2);
        }
        x.sheet(0, 2, 7);
        for (int bad : new int[] {-1, 21, Integer.MAX_VALUE, Integer.MIN_VALUE}) {
            Due.is("no such n", x.film(0, bad), -2);
        }
        Due.is("the sheet stays", x.cell(0, 6, 5), 1);
        Due.is("film", x.film(0, 5), 5);
        Due.is("five items", x.cell(0, 5, 0), -12);
        Due.is("bytes", x.court(0, 2, 0, 0), -13);
        Due.is("bytes", x.court(0, 0, 0, 0), 0);
        Due.is("all so", x.tells(0, 0, 0), -1);
        Due.fill(x, 1, 0, 1, 2, 2, 3, 3);
        Due.is("all so", x.tells(1, 0, 0), -1);
        // One of KIND 1, NUMBER 2, AGE 2, and one of KIND 3, NUMBER 3, AGE 0.
        x.sheet(2, 0, 6);
        x.copy(0, 0, 2, 0, 5);
        Due.is("as people", x.court(2, 0, 0, 2), 2);
        Due.is("kind", x.told(1, 7), 1);
        Due.is("number", x.told(1, 3), 2);
        Due.is("age", x.told(1, 4), 2);
        Due.is("kind", x.told(2, 7), 3);
        Due.is("number", x.told(2, 3), 3);
        Due.is("the sword stays", x.told(0, 1), 0);
        Due.is("the year stays", x.told(0, 2), 0);
        Due.is("20", x.film(3, 20), 20);
        Due.is("the last one", x.cell(3, 19, 0), 1);
        Due.is("not behind it", x.cell(3, 20, 0), -12);
        Due.is("none", x.film(3, 0), 0);
        Due.is("an empty sheet", x.cell(3, 0, 0), -12);
    }

    /** By seed 0 the first is numbered 0, the next one 3; by seed 1 the first is numbered 7. */
    private static void drawing() {
        NobodyCanLiftIt x = new NobodyCanLiftIt();
        for (int n : new int[] {-1, 41, Integer.MAX_VALUE, Integer.MIN_VALUE}) {
            Due.is("no such n", x.drawn(0, n), -2);
        }
        Due.is("nobody", x.drawn(0, 40), 0);
        x.person(0, 0, 0);
        Due.is("no year", x.drawn(0, 0), 0);
        Due.is("gone ahead of the first", x.drawn(0, 1), 0);
        Due.is("none is numbered 7", x.drawn(1, 1), 1);
        x.set(6, 0, 0);
        Due.is("here ahead of the first", x.drawn(0, 1), 1);
        Due.is("in thought alone", x.told(0, 6), 0);
        x.person(0, 9, 0);
        x.person(0, 9, 0);
        x.person(0, 0, 0);
        x.set(6, 1, 0);
        x.set(6, 2, 0);
        x.set(6, 3, 0);
        x.set(1, 0, 1);
        Due.is("10 is held", x.drawn(0, 1), 1);
        Due.is("20 then, and it falls", x.drawn(0, 2), 2);
        x.set(6, 3, 1);
        Due.is("20 first", x.drawn(0, 1), 2);
        Due.is("10 then", x.drawn(0, 2), 2);
        x.set(1, 0, 9);
        Due.is("the floor", x.told(0, 1), 9);
        Due.is("n 40", x.drawn(0, 40), 9);
        Due.is("the sword stays", x.told(0, 1), 9);
        Due.is("the year stays", x.told(0, 2), 0);
        // The same steps, written out: one man alone, turned whenever 0 is drawn, on floors that hold nothing.
        for (int seed : new int[] {0, 1, 2, -1, 77, 123456789, Integer.MAX_VALUE, Integer.MIN_VALUE}) {
            NobodyCanLiftIt y = new NobodyCanLiftIt();
            y.person(0, 0, 0);
            for (int f = 0; f < 10; f++) {
                y.set(0, f, 0);
            }
            for (int n : new int[] {1, 5, 12, 40}) {
                Due.is("drawn(" + seed + ", " + n + ")", y.drawn(seed, n), Math.min(10, yearsHere(seed, n)));
            }
        }
    }

    private static int yearsHere(int seed, int n) {
        long z = seed & 0xffffffffL;
        boolean here = true;
        int years = 0;
        for (int i = 0; i < n; i++) {
            z = (z * 1103515245L + 12345L) & 0xffffffffL;
            if ((z >> 9 & 7) == 0) {
                here = !here;
            }
            years += here ? 1 : 0;
        }
        return years;
    }

    private static void chances() {
        NobodyCanLiftIt x = new NobodyCanLiftIt();
        x.person(0, 0, 0);
        for (int f = 0; f < 10; f++) {
            x.set(0, f, 0);
        }
        for (int m : new int[] {-1, 0, 21, Integer.MAX_VALUE, Integer.MIN_VALUE}) {
            Due.is("no such m", x.chance(0, m, 0, 0), Due.NO);
        }
        for (int f : new int[] {-1, 11, Integer.MAX_VALUE, Integer.MIN_VALUE}) {
            Due.is("no such floor", x.chance(0, 1, f, 0), Due.NO);
        }
        for (int part : new int[] {-1, 2, Integer.MAX_VALUE, Integer.MIN_VALUE}) {
            Due.is("no such part", x.chance(0, 1, 0, part), Due.NO);
        }
        for (int seed : new int[] {0, 5, -3, Integer.MAX_VALUE, Integer.MIN_VALUE, Integer.MAX_VALUE - 4}) {
            for (int m : new int[] {1, 7, 12, 20}) {
                for (int f : new int[] {0, 4, 7, 9, 10}) {
                    int low = 0;
                    for (int i = 0; i < m; i++) {
                        low += yearsHere(seed + i, 10) >= f ? 1 : 0;
                    }
                    int divisor = java.math.BigInteger.valueOf(low).gcd(java.math.BigInteger.valueOf(m)).intValue();
                    String call = "chance(" + seed + ", " + m + ", " + f + ", ";
                    Due.is(call + "0)", x.chance(seed, m, f, 0), low / divisor);
                    Due.is(call + "1)", x.chance(seed, m, f, 1), m / divisor);
                }
            }
        }
        Due.is("the sword stays", x.told(0, 1), 0);
        NobodyCanLiftIt none = new NobodyCanLiftIt();
        Due.is("never, above", none.chance(3, 20, 1, 0), 0);
        Due.is("never, below", none.chance(3, 20, 1, 1), 1);
        Due.is("always, above", none.chance(3, 20, 0, 0), 1);
        Due.is("always, below", none.chance(3, 20, 0, 1), 1);
        none.set(1, 0, 10);
        Due.is("on the rock, above", none.chance(3, 20, 10, 0), 1);
    }

    private static void images() {
        NobodyCanLiftIt x = new NobodyCanLiftIt();
        Due.is("there is none", x.back(), -3);
        Due.read(x, "feels 1; strong 2; eases 3;");
        x.person(0, 1, 2);
        x.person(3, 4, 5);
        x.set(5, 1, 6);
        x.set(6, 0, 0);
        x.set(0, 9, 77);
        x.set(1, 0, 3);
        x.set(2, 0, 8);
        Due.is("image", x.image(), 2);
        for (int round = 0; round < 2; round++) {
            x.set(0, 9, 1);
            x.set(1, 0, 9);
            x.set(2, 0, 1);
            x.set(3, 0, 9);
            x.set(4, 0, 9);
            x.set(5, 1, 9);
            x.set(6, 0, 1);
            x.set(6, 1, 0);
            x.force(1);
            x.sheet(round, 0, 1);
            Due.feed(x, "a");
            Due.is("back", x.back(), 2);
            Due.is("load", x.told(9, 0), 77);
            Due.is("on", x.told(0, 1), 3);
            Due.is("year", x.told(0, 2), 8);
            Due.is("number", x.told(0, 3), 1);
            Due.is("age", x.told(0, 4), 2);
            Due.is("ease", x.told(1, 5), 6);
            Due.is("here", x.best(3), 2);
            Due.is("the rule", x.count(5), 0);
            Due.is("texts stay", x.count(3), 2);
            Due.is("the tape stays", x.count(4), round + 1);
            Due.is("sheets stay", x.cell(round, 0, 0), 1);
        }
        x.force(1);
        x.set(1, 0, 5);
        Due.is("another image", x.image(), 2);
        x.force(0);
        x.set(1, 0, 6);
        x.back();
        Due.is("on, by the newer one", x.told(0, 1), 5);
        Due.is("the rule, by the newer one", x.count(5), 1);
    }

    private static void peopleSinceGo() {
        NobodyCanLiftIt x = new NobodyCanLiftIt();
        Due.is("image of nobody", x.image(), 0);
        x.person(1, 0, 0);
        x.person(1, 0, 0);
        Due.is("heavy", x.weight(0), 40);
        Due.is("back", x.back(), 0);
        Due.is("nobody", x.count(0), 0);
        Due.is("nobody is here", x.count(1), 0);
        Due.is("no bits", x.best(3), 0);
        Due.is("light", x.weight(0), 0);
        Due.is("none such", x.told(0, 3), -2);
        Due.is("none such", x.set(6, 0, 1), -2);
        x.set(5, 0, 50);
        Due.is("the next one is the first again", x.person(4, 3, 2), 0);
        Due.is("of another kind", x.told(0, 7), 4);
        Due.is("ease 0", x.told(0, 5), 0);
        x.year();
        Due.is("an image with one", x.image(), 1);
        Due.is("ease", x.told(0, 5), 4);
        x.person(0, 0, 0);
        x.back();
        Due.is("one", x.count(0), 1);
        Due.is("ease is kept", x.told(0, 5), 4);
        Due.is("kind is as it was", x.told(0, 7), 4);
        Due.is("room again", x.person(0, 0, 0), 1);
    }

    private static void counts() {
        NobodyCanLiftIt x = new NobodyCanLiftIt();
        for (int bad : new int[] {-1, 6, Integer.MAX_VALUE, Integer.MIN_VALUE}) {
            Due.is("no such what", x.count(bad), -2);
        }
        x.person(0, 0, 0);
        x.person(0, 0, 0);
        x.set(6, 0, 0);
        x.set(2, 0, 12);
        Due.read(x, "feels 1; strong 1; eases 1;");
        x.force(1);
        Due.feed(x, "abc");
        int[] counts = {2, 1, 12, 2, 3, 1};
        for (int what = 0; what < counts.length; what++) {
            Due.is("count " + what, x.count(what), counts[what]);
        }
    }
}
