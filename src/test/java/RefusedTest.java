import java.util.ArrayList;
import java.util.List;

/**
 * Terms, part 1: "Refusals, the first that the call's words name; they change nothing". Each refused call is made on a
 * hall of its own, which answers everything afterwards as one does that was never asked.
 */
public final class RefusedTest {
    private static final int BAD = -2, STATE = -3, FULL = -4, MISSING = -11, OUTSIDE = -12, UNLIKE = -13, NEGATIVE = -14;
    private static final int[][] SHEETS = {{1, 2, 3, 4}, {1, 9, 9, 6, 0, 0, 3}, new int[21]};
    private static final int LEAST = Integer.MIN_VALUE, MOST = Integer.MAX_VALUE;
    private static List<Long> untouched;

    private interface Call {
        long on(NobodyCanLiftIt x);
    }

    public static void main(String[] args) {
        untouched = all(laid());
        hall();
        years();
        best();
        told();
        host();
        courts();
        whenFull();
        whenThereIsNoImage();
        Due.end();
    }

    /** A hall with something of everything: five people, an image, two texts, a tape, three sheets. */
    private static NobodyCanLiftIt laid() {
        NobodyCanLiftIt x = Due.by("10 + number", "age", "2");
        x.person(1, 3, 40);
        x.person(3, 2, 20);
        x.person(2, 1, 10);
        x.set(5, 1, 5);
        x.set(6, 2, 0);
        x.set(0, 4, 7);
        x.set(1, 0, 2);
        x.set(2, 0, 5);
        x.image();
        x.person(4, 9, 30);
        x.person(0, 0, 0);
        x.set(0, 4, 8);
        x.set(1, 0, 3);
        x.set(2, 0, 999);
        for (int s = 0; s < SHEETS.length; s++) {
            Due.fill(x, s, s, SHEETS[s]);
        }
        Due.feed(x, "feels 7");
        return x;
    }

    private static void hallOf(NobodyCanLiftIt x, List<Long> all) {
        for (int f = 0; f < 10; f++) {
            all.add((long) x.told(f, 0));
        }
        for (int one = 0; one < 5; one++) {
            for (int what = 3; what <= 10; what++) {
                all.add((long) x.told(one, what));
            }
            all.add(x.feels(one, 0));
            all.add(x.feels(one, 1));
        }
        all.add((long) x.told(0, 1));
        all.add(x.weight(0));
        all.add(x.weight(1));
        for (int what = 0; what < 6; what++) {
            all.add((long) x.count(what));
        }
    }

    /** Everything that shows: it is all that a hall does. */
    private static List<Long> all(NobodyCanLiftIt x) {
        List<Long> all = new ArrayList<>();
        hallOf(x, all);
        for (int one = 0; one < 5; one++) {
            x.set(6, one, 0);
        }
        all.add((long) x.court(3, 0, 0, 0));
        for (int s = 0; s < SHEETS.length; s++) {
            int size = SHEETS[s].length;
            all.add((long) x.court(s, s, 0, 0));
            all.add((long) x.copy(s, size, s, size, 0));
            all.add((long) x.copy(s, size + 1, s, size + 1, 0));
            x.sheet(3, s, 1);
            for (int i = 0; i < size; i++) {
                x.set(1, 0, SHEETS[s][i]);
                x.copy(s, i, 3, 0, 1);
                all.add((long) x.tells(3, 0, 0));
            }
        }
        Due.feed(x, "; strong 8; eases 9;");
        all.add((long) x.text());
        all.add((long) x.back());
        hallOf(x, all);
        all.add((long) x.force(2));
        hallOf(x, all);
        return all;
    }

    private static void refused(String call, int want, Call c) {
        NobodyCanLiftIt x = laid();
        Due.is(call, c.on(x), want);
        Due.isTrue(call + " changes nothing", all(x).equals(untouched));
    }

    private static void no(String call, Call c) {
        NobodyCanLiftIt x = laid();
        Due.is(call, c.on(x), Due.NO);
        Due.isTrue(call + " changes nothing", all(x).equals(untouched));
    }

    private static void hall() {
        int[] most = {999, 10, 999, 9, 999, 99, 1};
        for (int what = 0; what < 7; what++) {
            int w = what;
            for (int v : Due.outside(0, most[what])) {
                refused("set(" + w + ", 0, " + v + ")", BAD, x -> x.set(w, 0, v));
            }
        }
        for (int what : Due.outside(0, 6)) {
            refused("set(" + what + ", 0, 0)", BAD, x -> x.set(what, 0, 0));
        }
        for (int of : Due.outside(0, 9)) {
            refused("set(0, " + of + ", 0)", BAD, x -> x.set(0, of, 0));
            refused("told(" + of + ", 0)", BAD, x -> x.told(of, 0));
        }
        for (int of : Due.outside(0, 4)) {
            for (int what = 3; what <= 10; what++) {
                int w = what;
                refused("told(" + of + ", " + w + ")", BAD, x -> x.told(of, w));
                refused("set(" + w + ", " + of + ", 0)", BAD, x -> x.set(w, of, 0));
            }
            no("feels(" + of + ", 0)", x -> x.feels(of, 0));
        }
        for (int what : Due.outside(0, 10)) {
            refused("told(0, " + what + ")", BAD, x -> x.told(0, what));
        }
        for (int part : Due.outside(0, 1)) {
            no("feels(0, " + part + ")", x -> x.feels(0, part));
            no("weight(" + part + ")", x -> x.weight(part));
        }
        refused("person(0, 0, 0)", FULL, x -> x.person(0, 0, 0));
        refused("person(5, 9, 999)", FULL, x -> x.person(5, 9, 999));
        refused("person(6, 0, 0)", BAD, x -> x.person(6, 0, 0));
        refused("person(-1, 0, 0)", BAD, x -> x.person(-1, 0, 0));
        refused("person(0, 10, 0)", BAD, x -> x.person(0, 10, 0));
        refused("person(0, -1, 0)", BAD, x -> x.person(0, -1, 0));
        refused("person(0, 0, 1000)", BAD, x -> x.person(0, 0, 1000));
        refused("person(0, 0, -1)", BAD, x -> x.person(0, 0, -1));
        for (int letter : Due.outside(0, 255)) {
            refused("feed(" + letter + ")", BAD, x -> x.feed(letter));
        }
        for (int text : Due.outside(0, 1)) {
            refused("force(" + text + ")", BAD, x -> x.force(text));
        }
        for (int what : Due.outside(0, 5)) {
            refused("count(" + what + ")", BAD, x -> x.count(what));
        }
    }

    private static void years() {
        refused("year()", STATE, x -> x.year());
        // The man of AGE 0 is too weak, the child is not here.
        refused("lift(4)", STATE, x -> x.lift(4));
        refused("lift(2)", STATE, x -> x.lift(2));
        for (int one : Due.outside(0, 4)) {
            refused("lift(" + one + ")", BAD, x -> x.lift(one));
            refused("run(" + one + ", 0, 0)", BAD, x -> x.run(one, 0, 0));
            refused("when(" + one + ", 0)", BAD, x -> x.when(one, 0));
        }
        for (int n : Due.outside(0, 60)) {
            refused("run(0, " + n + ", 0)", BAD, x -> x.run(0, n, 0));
            no("heavy(" + n + ", 0)", x -> x.heavy(n, 0));
        }
        for (int what : Due.outside(0, 1)) {
            refused("run(0, 1, " + what + ")", BAD, x -> x.run(0, 1, what));
            no("heavy(1, " + what + ")", x -> x.heavy(1, what));
            refused("when(0, " + what + ")", BAD, x -> x.when(0, what));
        }
        for (int f : Due.outside(0, 10)) {
            refused("when(" + f + ", 1)", BAD, x -> x.when(f, 1));
        }
    }

    private static void best() {
        for (int what : Due.outside(0, 3)) {
            refused("best(" + what + ")", BAD, x -> x.best(what));
        }
        for (int n : Due.outside(0, 40)) {
            refused("prop(" + n + ", 1, 0)", BAD, x -> x.prop(n, 1, 0));
            refused("sit(" + n + ", 0)", BAD, x -> x.sit(n, 0));
        }
        for (int k : Due.outside(1, 99)) {
            refused("prop(0, " + k + ", 0)", BAD, x -> x.prop(0, k, 0));
        }
        for (int what : Due.outside(0, 1)) {
            refused("prop(0, 1, " + what + ")", BAD, x -> x.prop(0, 1, what));
            refused("sit(0, " + what + ")", BAD, x -> x.sit(0, what));
        }
    }

    /** tells: BAD: SHEET, none such, what; -11; BAD: it tells more than 20. */
    private static void told() {
        for (int sheet : Due.outside(0, 3)) {
            refused("tells(" + sheet + ", 0, 0)", BAD, x -> x.tells(sheet, 0, 0));
            refused("film(" + sheet + ", 3)", BAD, x -> x.film(sheet, 3));
            refused("film(" + sheet + ", 21)", BAD, x -> x.film(sheet, 21));
        }
        for (int one : Due.outside(0, 4)) {
            refused("tells(0, " + one + ", 0)", BAD, x -> x.tells(0, one, 0));
            refused("tells(3, " + one + ", 0), missing", BAD, x -> x.tells(3, one, 0));
        }
        for (int what : Due.outside(0, 8)) {
            refused("tells(0, 0, " + what + ")", BAD, x -> x.tells(0, 0, what));
            refused("tells(3, 0, " + what + "), missing", BAD, x -> x.tells(3, 0, what));
        }
        for (int what = 0; what < 9; what++) {
            int w = what;
            refused("tells(3, 0, " + w + ")", MISSING, x -> x.tells(3, 0, w));
            refused("tells(2, 0, " + w + "), of 21", BAD, x -> x.tells(2, 0, w));
        }
        for (int n : Due.outside(0, 20)) {
            refused("film(0, " + n + ")", BAD, x -> x.film(0, n));
            refused("film(3, " + n + "), missing", BAD, x -> x.film(3, n));
        }
        for (int n : Due.outside(0, 40)) {
            refused("drawn(0, " + n + ")", BAD, x -> x.drawn(0, n));
        }
        for (int m : Due.outside(1, 20)) {
            no("chance(0, " + m + ", 0, 0)", x -> x.chance(0, m, 0, 0));
        }
        for (int f : Due.outside(0, 10)) {
            no("chance(0, 1, " + f + ", 0)", x -> x.chance(0, 1, f, 0));
        }
        for (int part : Due.outside(0, 1)) {
            no("chance(0, 1, 0, " + part + ")", x -> x.chance(0, 1, 0, part));
        }
    }

    private static void host() {
        for (int sheet : Due.outside(0, 3)) {
            refused("sheet(" + sheet + ", 0, 1)", BAD, x -> x.sheet(sheet, 0, 1));
            refused("sheet(" + sheet + ", 0, -1)", BAD, x -> x.sheet(sheet, 0, -1));
            refused("sheet(" + sheet + ", -1, 0)", BAD, x -> x.sheet(sheet, -1, 0));
            refused("cell(" + sheet + ", 0, 0)", BAD, x -> x.cell(sheet, 0, 0));
            refused("copy(" + sheet + ", 0, 3, 0, -1)", BAD, x -> x.copy(sheet, 0, 3, 0, -1));
            refused("copy(3, 0, " + sheet + ", 0, -1)", BAD, x -> x.copy(3, 0, sheet, 0, -1));
        }
        for (int sort : Due.outside(-1, 2)) {
            refused("sheet(0, " + sort + ", 1)", BAD, x -> x.sheet(0, sort, 1));
            refused("sheet(0, " + sort + ", -1)", BAD, x -> x.sheet(0, sort, -1));
        }
        for (int sort = 0; sort < 3; sort++) {
            int s = sort;
            refused("sheet(0, " + s + ", 41)", BAD, x -> x.sheet(0, s, 41));
            refused("sheet(0, " + s + ", MOST)", BAD, x -> x.sheet(0, s, MOST));
            refused("sheet(0, " + s + ", -1)", NEGATIVE, x -> x.sheet(0, s, -1));
            refused("sheet(0, " + s + ", LEAST)", NEGATIVE, x -> x.sheet(0, s, LEAST));
        }
        for (int i : Due.outside(0, 3)) {
            refused("cell(0, " + i + ", 1)", OUTSIDE, x -> x.cell(0, i, 1));
            refused("cell(3, " + i + ", 1), missing", MISSING, x -> x.cell(3, i, 1));
        }
        refused("copy, missing", MISSING, x -> x.copy(3, 0, 0, 0, 1));
        refused("copy to a missing one", MISSING, x -> x.copy(0, 0, 3, 0, 1));
        refused("copy, missing, a place outside", MISSING, x -> x.copy(0, -1, 3, 0, -1));
        refused("copy to another sort", UNLIKE, x -> x.copy(0, 0, 1, 0, 1));
        refused("copy to another sort, a place outside", UNLIKE, x -> x.copy(1, 99, 2, -1, -1));
        int[][] outside = {{-1, 0, 1}, {0, -1, 1}, {0, 0, -1}, {4, 0, 1}, {0, 4, 1}, {0, 0, 5}, {3, 0, 2}, {0, 3, 2},
            {5, 0, 0}, {0, 5, 0}, {1, 0, MOST}, {0, 1, MOST}, {MOST, 0, 1}, {0, MOST, 1}, {LEAST, 0, 0}, {0, 0, LEAST}};
        for (int[] o : outside) {
            refused("copy(0, " + o[0] + ", 0, " + o[1] + ", " + o[2] + ")", OUTSIDE, x -> x.copy(0, o[0], 0, o[1], o[2]));
        }
        for (int k : Due.outside(0, 5)) {
            refused("taken(0, " + k + ")", BAD, x -> x.taken(0, k));
            refused("taken(9, " + k + ")", BAD, x -> x.taken(9, k));
        }
        for (int one : Due.outside(0, 4)) {
            refused("taken(" + one + ", 0)", MISSING, x -> x.taken(one, 0));
        }
        refused("taken(4, 1), a man for a king", UNLIKE, x -> x.taken(4, 1));
    }

    /** court: BAD: no such SHEET, sort, n; -13; -11; -12. */
    private static void courts() {
        for (int sheet : Due.outside(0, 3)) {
            refused("court(" + sheet + ", 0, 0, 1)", BAD, x -> x.court(sheet, 0, 0, 1));
        }
        for (int sort : Due.outside(0, 2)) {
            refused("court(0, " + sort + ", 0, 1)", BAD, x -> x.court(0, sort, 0, 1));
            refused("court(3, " + sort + ", 0, 1), missing", BAD, x -> x.court(3, sort, 0, 1));
        }
        for (int n : Due.outside(0, 5)) {
            refused("court(0, 0, 0, " + n + ")", BAD, x -> x.court(0, 0, 0, n));
            refused("court(0, 1, 0, " + n + "), of another sort", BAD, x -> x.court(0, 1, 0, n));
            refused("court(3, 0, 0, " + n + "), missing", BAD, x -> x.court(3, 0, 0, n));
        }
        for (int sort = 0; sort < 3; sort++) {
            int s = sort;
            refused("court, missing", MISSING, x -> x.court(3, s, -1, 1));
            refused("court, of another sort", UNLIKE, x -> x.court((s + 1) % 3, s, -1, 1));
        }
        for (int from : new int[] {-1, -3, 2, 3, 4, MOST, LEAST, MOST - 2}) {
            refused("court(0, 0, " + from + ", 1)", OUTSIDE, x -> x.court(0, 0, from, 1));
        }
    }

    /** text(): FULL (ahead of all): no TEXT more has room (THE TAPE stays). feed(): FULL: 160 bytes. */
    private static void whenFull() {
        NobodyCanLiftIt x = new NobodyCanLiftIt();
        for (int i = 1; i < 6; i++) {
            Due.read(x, "feels 1; strong 1; eases 1;");
        }
        Due.is("empty", x.text(), FULL);
        Due.feed(x, "!");
        Due.is("a fault", x.text(), FULL);
        Due.is("its byte", x.count(4), 1);
        for (int i = 2; i <= 160; i++) {
            Due.is("feed", x.feed('a'), i);
        }
        Due.is("no more", x.feed('a'), FULL);
        Due.is("no byte", x.feed(-1), BAD);
        Due.is("a full tape", x.text(), FULL);
        Due.is("its bytes", x.count(4), 160);
        Due.is("texts", x.count(3), 6);
    }

    private static void whenThereIsNoImage() {
        NobodyCanLiftIt x = new NobodyCanLiftIt();
        x.person(0, 1, 2);
        x.set(1, 0, 7);
        Due.is("back", x.back(), STATE);
        Due.is("on", x.told(0, 1), 7);
        Due.is("people", x.count(0), 1);
        Due.is("image", x.image(), 1);
        Due.is("back then", x.back(), 1);
    }
}
