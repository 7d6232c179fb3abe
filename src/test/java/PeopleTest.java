/** Promises 1 to 6: a new object, set, person, told, feels, weight. */
public final class PeopleTest {
    public static void main(String[] args) {
        newObject();
        setAndTold();
        wrongSet();
        persons();
        wrongTold();
        feelings();
        strengths();
        easings();
        lifting();
        weights();
        Due.end();
    }

    private static void newObject() {
        NobodyCanLiftIt x = new NobodyCanLiftIt();
        for (int f = 0; f < 10; f++) {
            Due.is("new: load of " + f, x.told(f, 0), 5 * (f + 1));
        }
        Due.is("new: lies on", x.told(0, 1), 0);
        Due.is("new: year", x.told(0, 2), 0);
        int[] counts = {0, 0, 0, 1, 0, 0};
        for (int what = 0; what < counts.length; what++) {
            Due.is("new: count " + what, x.count(what), counts[what]);
        }
        Due.is("new: no person", x.told(0, 3), -2);
        for (int s = 0; s < 4; s++) {
            Due.is("new: sheet missing", x.cell(s, 0, 0), -11);
        }
        Due.is("new: no image", x.back(), -3);
        Due.is("new: above", x.weight(0), 0);
        Due.is("new: below", x.weight(1), 1);
    }

    private static void setAndTold() {
        NobodyCanLiftIt x = new NobodyCanLiftIt();
        x.person(0, 1, 30);
        Due.is("set load", x.set(0, 9, 999), 50);
        Due.is("set load again", x.set(0, 9, 0), 999);
        Due.is("told load", x.told(9, 0), 0);
        Due.is("another load", x.told(8, 0), 45);
        Due.is("set on", x.set(1, -77, 10), 0);
        Due.is("set on again", x.set(1, 1000000, 3), 10);
        Due.is("told on", x.told(-5, 1), 3);
        Due.is("set year", x.set(2, -1, 999), 0);
        Due.is("told year", x.told(99, 2), 999);
        Due.is("set number", x.set(3, 0, 9), 1);
        Due.is("told number", x.told(0, 3), 9);
        Due.is("set age", x.set(4, 0, 999), 30);
        Due.is("told age", x.told(0, 4), 999);
        Due.is("set ease", x.set(5, 0, 99), 0);
        Due.is("told ease", x.told(0, 5), 99);
        Due.is("set here", x.set(6, 0, 0), 1);
        Due.is("told here", x.told(0, 6), 0);
        Due.is("set here back", x.set(6, 0, 1), 0);
        Due.is("ease stays", x.told(0, 5), 99);
    }

    private static void wrongSet() {
        NobodyCanLiftIt x = new NobodyCanLiftIt();
        x.person(0, 1, 30);
        int[] most = {999, 10, 999, 9, 999, 99, 1};
        for (int what = 0; what < most.length; what++) {
            int was = x.told(0, what);
            Due.is("set below 0, " + what, x.set(what, 0, -1), -2);
            Due.is("set above, " + what, x.set(what, 0, most[what] + 1), -2);
            Due.is("set far above, " + what, x.set(what, 0, Integer.MAX_VALUE), -2);
            Due.is("set far below, " + what, x.set(what, 0, Integer.MIN_VALUE), -2);
            Due.is("unchanged, " + what, x.told(0, what), was);
            Due.is("the most, " + what, x.set(what, 0, most[what]), was);
            Due.is("the least, " + what, x.set(what, 0, 0), most[what]);
        }
        for (int of : new int[] {-1, 10, Integer.MAX_VALUE, Integer.MIN_VALUE}) {
            Due.is("no floor", x.set(0, of, 1), -2);
        }
        for (int what = 3; what <= 6; what++) {
            for (int of : new int[] {-1, 1, 5, Integer.MAX_VALUE, Integer.MIN_VALUE}) {
                Due.is("none such", x.set(what, of, 1), -2);
            }
        }
        for (int what : new int[] {-1, 7, 8, Integer.MAX_VALUE, Integer.MIN_VALUE}) {
            Due.is("no such what", x.set(what, 0, 0), -2);
        }
    }

    private static void persons() {
        NobodyCanLiftIt x = new NobodyCanLiftIt();
        int[][] wrong = {{-1, 0, 0}, {6, 0, 0}, {0, -1, 0}, {0, 10, 0}, {0, 0, -1}, {0, 0, 1000}};
        for (int[] w : wrong) {
            Due.is("wrong person", x.person(w[0], w[1], w[2]), -2);
        }
        Due.is("nobody came", x.count(0), 0);
        for (int i = 0; i < 5; i++) {
            Due.is("person", x.person(5 - i, 9 - i, 999 - i), i);
        }
        Due.is("full", x.person(0, 0, 0), -4);
        for (int[] w : wrong) {
            Due.is("bad ahead of full", x.person(w[0], w[1], w[2]), -2);
        }
        for (int i = 0; i < 5; i++) {
            Due.is("number", x.told(i, 3), 9 - i);
            Due.is("age", x.told(i, 4), 999 - i);
            Due.is("ease", x.told(i, 5), 0);
            Due.is("here", x.told(i, 6), 1);
            Due.is("kind", x.told(i, 7), 5 - i);
        }
    }

    private static void wrongTold() {
        NobodyCanLiftIt x = new NobodyCanLiftIt();
        x.person(0, 0, 0);
        for (int what : new int[] {-1, 11, Integer.MAX_VALUE, Integer.MIN_VALUE}) {
            Due.is("no such what", x.told(0, what), -2);
        }
        for (int of : new int[] {-1, 10, Integer.MAX_VALUE, Integer.MIN_VALUE}) {
            Due.is("no floor", x.told(of, 0), -2);
        }
        for (int what = 3; what <= 10; what++) {
            for (int of : new int[] {-1, 1, 5, Integer.MAX_VALUE, Integer.MIN_VALUE}) {
                Due.is("none such", x.told(of, what), -2);
            }
        }
    }

    private static void felt(NobodyCanLiftIt x, int one, long above, long below) {
        Due.is("feels(" + one + ", 0)", x.feels(one, 0), above);
        Due.is("feels(" + one + ", 1)", x.feels(one, 1), below);
    }

    /** By the first rule v is 10. */
    private static void feelings() {
        NobodyCanLiftIt x = new NobodyCanLiftIt();
        x.person(0, 6, 0);
        x.person(1, 6, 0);
        x.person(2, 6, 8);
        x.person(4, 6, 8);
        x.person(5, 6, 0);
        felt(x, 0, 10, 7);
        felt(x, 1, 20, 7);
        felt(x, 2, 0, 1);
        felt(x, 3, 0, 1);
        felt(x, 4, 10, 1);
        x.set(4, 2, 9);
        x.set(4, 3, 9);
        felt(x, 2, 5, 7);
        felt(x, 3, 5, 21);
        x.set(3, 0, 9);
        felt(x, 0, 1, 1);
        x.set(6, 0, 0);
        felt(x, 0, 1, 1);
        for (int one : new int[] {-1, 5, Integer.MAX_VALUE, Integer.MIN_VALUE}) {
            Due.is("none such", x.feels(one, 0), Due.NO);
        }
        for (int part : new int[] {-1, 2, Integer.MAX_VALUE, Integer.MIN_VALUE}) {
            Due.is("no part", x.feels(0, part), Due.NO);
        }
        NobodyCanLiftIt q = new NobodyCanLiftIt();
        q.person(3, 6, 0);
        felt(q, 0, 20, 7);
        q.set(5, 0, 2);
        felt(q, 0, 6, 7);
        q.set(5, 0, 3);
        felt(q, 0, 0, 1);
        q.set(3, 0, 1);
        q.set(5, 0, 10);
        felt(q, 0, 0, 1);
    }

    private static void strong(NobodyCanLiftIt x, int one, int want) {
        Due.is("how strong is " + one, x.told(one, 8), want);
    }

    /** By the first rule v is AGE. */
    private static void strengths() {
        NobodyCanLiftIt x = new NobodyCanLiftIt();
        x.person(0, 6, 39);
        x.person(1, 6, 39);
        x.person(2, 6, 39);
        x.person(4, 6, 39);
        x.person(5, 6, 39);
        x.set(5, 3, 7);
        strong(x, 0, 39);
        strong(x, 1, 45);
        strong(x, 2, 3);
        strong(x, 3, 10);
        strong(x, 4, 44);
        x.set(1, 0, 9);
        strong(x, 4, 89);
        x.set(1, 0, 10);
        strong(x, 4, 39);
        x.set(4, 0, 999);
        strong(x, 0, 99);
        x.set(4, 2, 90);
        x.set(4, 3, 90);
        strong(x, 2, 9);
        strong(x, 3, 16);
        NobodyCanLiftIt q = new NobodyCanLiftIt();
        q.person(3, 6, 39);
        strong(q, 0, 45);
        q.set(5, 0, 49);
        strong(q, 0, 45);
        q.set(5, 0, 50);
        strong(q, 0, 90);
    }

    private static void eased(NobodyCanLiftIt x, int one, int want) {
        Due.is("by how much eased is " + one, x.told(one, 9), want);
    }

    private static void easings() {
        NobodyCanLiftIt x = new NobodyCanLiftIt();
        x.force(Due.read(x, "feels 1; strong 1; eases 60;"));
        for (int kind = 0; kind < 5; kind++) {
            x.person(kind, 6, 20);
        }
        int[] want = {60, 0, 61, 6, 122};
        for (int kind = 0; kind < 5; kind++) {
            x.set(5, kind, 99);
            eased(x, kind, want[kind]);
        }
        NobodyCanLiftIt e = new NobodyCanLiftIt();
        e.person(5, 6, 20);
        eased(e, 0, 1);
        e.set(2, 0, 1);
        eased(e, 0, 0);
        e.set(2, 0, 2);
        eased(e, 0, 1);
    }

    private static void lifting() {
        NobodyCanLiftIt x = new NobodyCanLiftIt();
        x.person(0, 0, 9);
        Due.is("a little too weak", x.told(0, 10), 0);
        x.set(4, 0, 10);
        Due.is("just strong enough", x.told(0, 10), 1);
        x.set(6, 0, 0);
        Due.is("not here", x.told(0, 10), 0);
        x.set(6, 0, 1);
        x.person(0, 9, 0);
        Due.is("one part too heavy", x.told(0, 10), 0);
        x.set(6, 1, 0);
        x.set(1, 0, 10);
        Due.is("from the rock", x.told(0, 10), 1);
    }

    private static void weights() {
        NobodyCanLiftIt x = new NobodyCanLiftIt();
        x.person(0, 6, 0);
        x.person(0, 7, 0);
        x.person(4, 8, 9);
        // 10/7 + 10/8 + 10/54, that is 2160 + 1890 + 280 of 1512 parts.
        Due.is("above", x.weight(0), 2165);
        Due.is("below", x.weight(1), 756);
        x.set(6, 1, 0);
        // 10/7 + 10/54, that is 2160 + 280 of 1512.
        Due.is("above, one gone", x.weight(0), 305);
        Due.is("below, one gone", x.weight(1), 189);
        for (int part : new int[] {-1, 2, Integer.MAX_VALUE, Integer.MIN_VALUE}) {
            Due.is("no part", x.weight(part), Due.NO);
        }
        NobodyCanLiftIt m = new NobodyCanLiftIt();
        m.force(Due.read(m, "feels 9999; strong 0; eases 0;"));
        for (int i = 0; i < 5; i++) {
            m.person(1, 0, 0);
        }
        Due.is("the heaviest", m.weight(0), 990);
    }
}
