/** Promises 10 to 14: year, lift, run, heavy, when. */
public final class YearsTest {
    public static void main(String[] args) {
        falling();
        toldAhead();
        bounds();
        lifting();
        running();
        heavyBehind();
        whenLifted();
        whenDown();
        Due.end();
    }

    /** One man of NUMBER 0 weighs 10: more than the first floor's 5, no more than the second one's. */
    private static void falling() {
        NobodyCanLiftIt x = new NobodyCanLiftIt();
        x.person(0, 0, 30);
        Due.is("through the first floor", x.year(), 1);
        Due.is("as heavy as the load: it holds", x.year(), 1);
        x.set(0, 1, 9);
        Due.is("through the second", x.year(), 2);
        Due.is("year", x.told(0, 2), 3);
        Due.is("age", x.told(0, 4), 33);
        Due.is("ease", x.told(0, 5), 3);
        x.set(1, 0, 9);
        x.set(0, 9, 0);
        Due.is("to the rock", x.year(), 10);
        Due.is("on the rock it stays", x.year(), 10);
        x.set(6, 0, 0);
        x.set(1, 0, 0);
        x.set(0, 0, 0);
        Due.is("nobody's weight is not more than 0", x.year(), 0);
        Due.is("who is gone is no more eased", x.told(0, 5), 5);
        Due.is("but older", x.told(0, 4), 36);
        NobodyCanLiftIt part = new NobodyCanLiftIt();
        part.force(Due.read(part, "feels 10; strong 0; eases 0;"));
        part.person(0, 8, 0);
        part.set(0, 0, 1);
        Due.is("a ninth more than the load", part.year(), 1);
    }

    /** Everything goes by what stood ahead of the year. */
    private static void toldAhead() {
        NobodyCanLiftIt x = new NobodyCanLiftIt();
        x.force(Due.read(x, "feels 50; strong 0; eases floor*20 + year*7 + ease + (age = 5)*3;"));
        x.person(0, 0, 5);
        x.person(0, 0, 6);
        x.person(5, 0, 6);
        Due.is("falls", x.year(), 1);
        Due.is("by age 5, floor 0, year 0", x.told(0, 5), 3);
        Due.is("no gain", x.told(1, 5), 0);
        Due.is("falls again", x.year(), 2);
        Due.is("20 + 7 + 3 more", x.told(0, 5), 33);
        Due.is("20 + 7 more", x.told(1, 5), 27);
        Due.is("an engineer in an odd year", x.told(2, 5), 0);
        Due.is("falls once more", x.year(), 3);
        Due.is("33 + 40 + 14 + 33 are above", x.told(0, 5), 99);
        Due.is("40 + 14 in an even year", x.told(2, 5), 54);
        NobodyCanLiftIt o = new NobodyCanLiftIt();
        o.force(Due.read(o, "feels 0; strong 0; eases others*10 + ease;"));
        o.person(0, 0, 5);
        o.person(0, 0, 6);
        o.year();
        o.year();
        Due.is("eased alike, the first", o.told(0, 5), 30);
        Due.is("eased alike, the second", o.told(1, 5), 30);
    }

    private static void bounds() {
        NobodyCanLiftIt x = new NobodyCanLiftIt();
        x.person(2, 0, 998);
        x.set(5, 0, 98);
        x.set(2, 0, 998);
        Due.is("to 999", x.year(), 0);
        Due.is("ease 99 at most", x.told(0, 5), 99);
        Due.is("age 999", x.told(0, 4), 999);
        Due.is("year 999", x.count(2), 999);
        Due.is("no further", x.year(), -3);
        Due.is("as it was", x.told(0, 1), 0);
        x.set(2, 0, 5);
        x.year();
        Due.is("age 999 at most", x.told(0, 4), 999);
        Due.is("ease still 99", x.told(0, 5), 99);
    }

    private static void lifting() {
        NobodyCanLiftIt x = new NobodyCanLiftIt();
        for (int one : new int[] {-1, 0, 5, Integer.MAX_VALUE, Integer.MIN_VALUE}) {
            Due.is("none such", x.lift(one), -2);
        }
        x.person(0, 0, 9);
        x.set(1, 0, 7);
        Due.is("too weak", x.lift(0), -3);
        Due.is("it lies as it lay", x.told(0, 1), 7);
        x.set(4, 0, 10);
        Due.is("lifted", x.lift(0), 7);
        Due.is("on the table", x.told(0, 1), 0);
        Due.is("lifted again", x.lift(0), 0);
        x.set(1, 0, 10);
        x.set(6, 0, 0);
        Due.is("not here", x.lift(0), -3);
        x.set(6, 0, 1);
        Due.is("from the rock", x.lift(0), 10);
        x.person(5, 0, 0);
        x.set(1, 0, 2);
        Due.is("too weak without a load", x.lift(1), -3);
        x.set(0, 2, 20);
        Due.is("an engineer with the floor", x.lift(1), 2);
    }

    private static void running() {
        NobodyCanLiftIt x = new NobodyCanLiftIt();
        Due.is("none such", x.run(0, 0, 0), -2);
        x.person(0, 0, 30);
        x.person(3, 4, 30);
        x.set(6, 1, 0);
        for (int n : new int[] {-1, 61, Integer.MAX_VALUE, Integer.MIN_VALUE}) {
            Due.is("no such n", x.run(0, n, 0), -2);
        }
        for (int what : new int[] {-1, 2, Integer.MAX_VALUE, Integer.MIN_VALUE}) {
            Due.is("no such what", x.run(0, 0, what), -2);
        }
        for (int one : new int[] {-1, 2, 5, Integer.MAX_VALUE, Integer.MIN_VALUE}) {
            Due.is("none such", x.run(one, 0, 1), -2);
        }
        Due.is("behind none", x.run(0, 0, 0), 0);
        Due.is("behind one", x.run(0, 1, 0), 1);
        Due.is("behind 60", x.run(0, 60, 0), 1);
        Due.is("ease behind 60", x.run(0, 60, 1), 60);
        Due.is("ease of who is gone", x.run(1, 60, 1), 0);
        x.set(6, 1, 1);
        Due.is("ease of a queen", x.run(1, 3, 1), 12);
        Due.is("ease of a queen, 99 at most", x.run(1, 60, 1), 99);
        Due.is("in thought alone: on", x.told(0, 1), 0);
        Due.is("in thought alone: year", x.told(0, 2), 0);
        Due.is("in thought alone: age", x.told(0, 4), 30);
        Due.is("in thought alone: ease", x.told(0, 5), 0);
        NobodyCanLiftIt late = new NobodyCanLiftIt();
        late.force(Due.read(late, "feels (1040 < year)*60; strong 0; eases 999 < year;"));
        late.person(0, 0, 0);
        late.set(2, 0, 999);
        Due.is("years pass 999: 1041 is the 43rd", late.run(0, 42, 0), 0);
        Due.is("then it falls", late.run(0, 43, 0), 1);
        Due.is("eased from 1000 on", late.run(0, 60, 1), 59);
    }

    private static void heavyBehind() {
        NobodyCanLiftIt x = new NobodyCanLiftIt();
        Due.is("nobody, above", x.heavy(60, 0), 0);
        Due.is("nobody, below", x.heavy(60, 1), 1);
        x.person(3, 3, 30);
        // 20/4 less EASE, which is 3 more each year: 5, 2, 0.
        Due.is("behind 0", x.heavy(0, 0), 5);
        Due.is("behind 1", x.heavy(1, 0), 2);
        Due.is("behind 2", x.heavy(2, 0), 0);
        x.set(3, 0, 2);
        Due.is("20/3 less 2, above", x.heavy(1, 0), 14);
        Due.is("20/3 less 2, below", x.heavy(1, 1), 3);
        for (int n : new int[] {-1, 61, Integer.MAX_VALUE, Integer.MIN_VALUE}) {
            Due.is("no such n", x.heavy(n, 0), Due.NO);
        }
        for (int part : new int[] {-1, 2, Integer.MAX_VALUE, Integer.MIN_VALUE}) {
            Due.is("no such part", x.heavy(0, part), Due.NO);
        }
        Due.is("in thought alone", x.told(0, 5), 0);
    }

    private static void whenLifted() {
        NobodyCanLiftIt x = new NobodyCanLiftIt();
        Due.is("none such", x.when(0, 0), -2);
        x.person(0, 0, 0);
        x.person(2, 0, 0);
        Due.is("no such what", x.when(0, -1), -2);
        Due.is("no such what", x.when(0, 2), -2);
        for (int one : new int[] {-1, 2, 5, Integer.MAX_VALUE, Integer.MIN_VALUE}) {
            Due.is("none such", x.when(one, 0), -2);
        }
        // 10 till the child is 9, then 15.
        Due.is("the man behind 15", x.when(0, 0), 15);
        Due.is("the child never", x.when(1, 0), -1);
        x.set(6, 0, 0);
        Due.is("who is gone never", x.when(0, 0), -1);
        Due.is("the child at once: it feels nothing", x.when(1, 0), 0);
        x.set(4, 1, 9);
        Due.is("5 by a tenth of AGE: behind 41", x.when(1, 0), 41);
        NobodyCanLiftIt far = new NobodyCanLiftIt();
        far.force(Due.read(far, "feels 60; strong ease; eases 1;"));
        far.person(0, 0, 0);
        Due.is("behind 60 at most", far.when(0, 0), 60);
        far.set(6, 0, 0);
        far.person(5, 0, 0);
        far.set(1, 0, 10);
        Due.is("an engineer eases every other year", far.when(1, 0), -1);
    }

    private static void whenDown() {
        NobodyCanLiftIt x = new NobodyCanLiftIt();
        for (int f : new int[] {-1, 11, Integer.MAX_VALUE, Integer.MIN_VALUE}) {
            Due.is("no such floor", x.when(f, 1), -2);
        }
        Due.is("it lies on the first", x.when(0, 1), 0);
        Due.is("nobody feels it", x.when(1, 1), -1);
        x.force(Due.read(x, "feels 51; strong 0; eases 0;"));
        x.person(0, 0, 0);
        for (int f = 0; f <= 10; f++) {
            Due.is("a floor a year", x.when(f, 1), f);
        }
        x.set(1, 0, 4);
        Due.is("is lower already", x.when(2, 1), 0);
        Due.is("is there already", x.when(4, 1), 0);
        Due.is("the rock behind 6", x.when(10, 1), 6);
        NobodyCanLiftIt far = new NobodyCanLiftIt();
        far.force(Due.read(far, "feels (year = 59)*99; strong 0; eases 0;"));
        far.person(0, 0, 0);
        Due.is("behind 60 at most", far.when(1, 1), 60);
        Due.is("not behind 61", far.when(2, 1), -1);
        far.set(2, 0, 998);
        Due.is("never", far.when(1, 1), -1);
    }
}
