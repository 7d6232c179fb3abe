/** Promises 15 to 17: best, prop, sit. */
public final class BestTest {
    public static void main(String[] args) {
        leaving();
        lightest();
        propping();
        sitting();
        Due.end();
    }

    private static void best(NobodyCanLiftIt x, int leave, int many, int lightest, int here) {
        Due.is("leave", x.best(0), leave);
        Due.is("how many leave", x.best(1), many);
        Due.is("lightest", x.best(2), lightest);
        Due.is("here", x.best(3), here);
    }

    private static void leaving() {
        NobodyCanLiftIt x = new NobodyCanLiftIt();
        best(x, -1, -1, -1, 0);
        for (int what : new int[] {-1, 4, Integer.MAX_VALUE, Integer.MIN_VALUE}) {
            Due.is("no such what", x.best(what), -2);
        }
        // Each weighs 10; the last one alone is strong, but 25 is all that he lifts.
        x.person(0, 0, 0);
        x.person(0, 0, 0);
        x.person(0, 0, 0);
        best(x, -1, -1, 0, 7);
        x.person(0, 0, 25);
        best(x, 3, 2, 0, 15);
        x.set(4, 3, 30);
        best(x, 1, 1, 0, 15);
        x.set(4, 3, 40);
        best(x, 0, 0, 0, 15);
        x.set(4, 3, 10);
        best(x, 7, 3, 0, 15);
        x.set(4, 3, 9);
        best(x, -1, -1, 0, 15);
        x.set(4, 3, 25);
        x.set(6, 0, 0);
        best(x, 2, 1, 1, 14);
        x.set(6, 3, 0);
        best(x, -1, -1, 1, 6);
        Due.is("in thought alone", x.count(1), 2);
        // Fewer go ahead of a lesser number: {2} is 4, {0, 1} would be 3.
        NobodyCanLiftIt f = new NobodyCanLiftIt();
        f.person(0, 0, 0);
        f.person(0, 0, 0);
        f.person(1, 0, 0);
        f.person(0, 0, 30);
        best(f, 4, 1, 2, 15);
        // The first one is the strong one.
        NobodyCanLiftIt s = new NobodyCanLiftIt();
        s.person(0, 0, 10);
        s.person(0, 0, 0);
        best(s, 2, 1, 0, 3);
        // Who goes changes what the others tell: with two others one feels nothing.
        NobodyCanLiftIt o = new NobodyCanLiftIt();
        o.force(Due.read(o, "feels (others < 2)*50; strong 1; eases 0;"));
        o.person(0, 0, 0);
        o.person(0, 0, 0);
        o.person(0, 0, 0);
        best(o, 0, 0, 0, 7);
        o.set(6, 1, 0);
        best(o, -1, -1, 0, 5);
    }

    private static void lightest() {
        NobodyCanLiftIt x = new NobodyCanLiftIt();
        x.person(0, 4, 0);
        x.person(0, 3, 0);
        x.person(0, 3, 0);
        Due.is("of like ones the first", x.best(2), 1);
        x.set(3, 2, 2);
        Due.is("the heaviest goes", x.best(2), 2);
        x.set(6, 2, 0);
        Due.is("who isn't here does not go", x.best(2), 1);
        x.set(6, 1, 0);
        Due.is("the last one", x.best(2), 0);
        x.set(6, 0, 0);
        Due.is("nobody is here", x.best(2), -1);
        NobodyCanLiftIt o = new NobodyCanLiftIt();
        o.force(Due.read(o, "feels (others < 2)*50 + number; strong 1; eases 0;"));
        o.person(5, 1, 0);
        o.person(5, 3, 0);
        o.person(5, 2, 0);
        Due.is("though all get heavier", o.best(2), 1);
        // Two parts of 15120 apart: 10/9 and 10/10, 10/54 and 10/60.
        NobodyCanLiftIt t = new NobodyCanLiftIt();
        t.person(4, 9, 9);
        t.person(4, 8, 9);
        Due.is("a 54th more than a 60th", t.best(2), 1);
    }

    private static void propping() {
        NobodyCanLiftIt x = new NobodyCanLiftIt();
        Due.is("nobody", x.prop(40, 99, 0), -1);
        Due.is("as so", x.prop(40, 99, 1), 0);
        x.person(1, 0, 0);
        // 20: through 5, 10 and 15, held by 20.
        Due.is("holds on floor 3", x.run(0, 40, 0), 3);
        Due.is("the first floor with 15 more", x.prop(40, 15, 0), 0);
        Due.is("then on it", x.prop(40, 15, 1), 0);
        Due.is("the second with 14", x.prop(40, 14, 0), 1);
        Due.is("then on it", x.prop(40, 14, 1), 1);
        Due.is("the third with 5", x.prop(40, 5, 0), 2);
        Due.is("none with 4", x.prop(40, 4, 0), -1);
        Due.is("as so", x.prop(40, 4, 1), 3);
        Due.is("behind 0 years nothing is higher", x.prop(0, 99, 0), -1);
        Due.is("behind 0 years, on", x.prop(0, 99, 1), 0);
        Due.is("behind 1", x.prop(1, 10, 0), -1);
        Due.is("behind 2", x.prop(2, 10, 0), 1);
        Due.is("the load stays", x.told(0, 0), 5);
        Due.is("the sword stays", x.told(0, 1), 0);
        for (int n : new int[] {-1, 41, Integer.MAX_VALUE, Integer.MIN_VALUE}) {
            Due.is("no such n", x.prop(n, 1, 0), -2);
        }
        for (int k : new int[] {-1, 0, 100, Integer.MAX_VALUE, Integer.MIN_VALUE}) {
            Due.is("no such load", x.prop(0, k, 0), -2);
        }
        for (int what : new int[] {-1, 2, Integer.MAX_VALUE, Integer.MIN_VALUE}) {
            Due.is("no such what", x.prop(0, 1, what), -2);
        }
        // From 990 on 9 more are all that a load can have.
        NobodyCanLiftIt m = new NobodyCanLiftIt();
        m.force(Due.read(m, "feels 99; strong 0; eases 0;"));
        for (int i = 0; i < 5; i++) {
            m.person(1, 0, 0);
        }
        m.set(0, 0, 989);
        Due.is("990 is held", m.prop(1, 1, 0), 0);
        m.set(0, 0, 900);
        Due.is("999 is held", m.prop(40, 99, 0), 0);
    }

    private static void sitting() {
        NobodyCanLiftIt x = new NobodyCanLiftIt();
        Due.is("nobody", x.sit(0, 0), -1);
        Due.is("nobody", x.sit(0, 1), -1);
        x.person(0, 0, 0);
        Due.is("all are here", x.sit(40, 0), -1);
        Due.is("all are here", x.sit(40, 1), -1);
        x.person(1, 0, 0);
        x.person(0, 1, 0);
        x.person(0, 1, 0);
        x.set(6, 1, 0);
        x.set(6, 2, 0);
        x.set(6, 3, 0);
        // 10 are held by the second floor; 30 by the sixth, 15 by the third.
        Due.is("who", x.sit(40, 0), 2);
        Due.is("where then", x.sit(40, 1), 2);
        Due.is("of like ones the first", x.sit(1, 0), 1);
        Due.is("where then", x.sit(1, 1), 1);
        Due.is("behind 0", x.sit(0, 0), 1);
        Due.is("behind 0, on", x.sit(0, 1), 0);
        Due.is("in thought alone", x.count(1), 1);
        Due.is("the sword stays", x.told(0, 1), 0);
        x.set(6, 0, 0);
        Due.is("who is light", x.sit(1, 0), 2);
        x.set(3, 0, 1);
        Due.is("the first of those who are light", x.sit(1, 0), 0);
        Due.is("the first floor holds", x.sit(1, 1), 0);
        // Who comes is one other to the others: 6 by each of two, and then no more is held.
        NobodyCanLiftIt o = new NobodyCanLiftIt();
        o.force(Due.read(o, "feels others*6; strong 0; eases 0;"));
        o.person(5, 0, 0);
        o.person(5, 0, 0);
        o.set(6, 1, 0);
        Due.is("who", o.sit(40, 0), 1);
        Due.is("12 are held by the third", o.sit(40, 1), 2);
        for (int n : new int[] {-1, 41, Integer.MAX_VALUE, Integer.MIN_VALUE}) {
            Due.is("no such n", x.sit(n, 0), -2);
        }
        for (int what : new int[] {-1, 2, Integer.MAX_VALUE, Integer.MIN_VALUE}) {
            Due.is("no such what", x.sit(0, what), -2);
        }
    }
}
