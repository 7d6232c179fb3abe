/** Terms, part 3, and the host's promises: what each sentence names as a bound, one test for each. */
public final class TermsSheetTest {
    private static final int BAD = -2, MISSING = -11, OUTSIDE = -12, UNLIKE = -13, NEGATIVE = -14;

    public static void main(String[] args) {
        sheetsAreFour();
        sheetsAreMissingAtFirst();
        sortsAreThree();
        sizesAreWithinTheirBounds();
        aRowIsAllZero();
        aRowGoesMissing();
        bytesKeepTheirLowest8();
        shortsKeepTheirLowest16();
        intsKeepAll();
        cellsAtTheEnds();
        copiesAtTheEnds();
        copiesOfNothing();
        copiesAsTheyWere();
        filmTruly();
        courtThreeByThree();
        courtFromAnyPlace();
        courtLeavesOut();
        courtWhenThereIsNoRoom();
        courtOutside();
        courtOfNobody();
        takenForOneAbove();
        takenWhateverElse();
        Due.end();
    }

    /** Whether item i of a sheet of this sort is v (0 .. 10), which the sword that nobody feels is told to lie on. */
    private static void item(NobodyCanLiftIt x, int sheet, int sort, int i, int v) {
        x.sheet(3, sort, 1);
        Due.is("its place", x.copy(sheet, i, 3, 0, 1), 1);
        x.set(1, 0, v);
        Due.is("item " + i + " is " + v, x.tells(3, 0, 0), -1);
    }

    private static NobodyCanLiftIt withOneGone() {
        NobodyCanLiftIt x = new NobodyCanLiftIt();
        x.person(0, 0, 0);
        x.set(6, 0, 0);
        return x;
    }

    /** SHEETS 0 .. 3. */
    private static void sheetsAreFour() {
        NobodyCanLiftIt x = new NobodyCanLiftIt();
        for (int s = 0; s < 4; s++) {
            Due.is("sheet " + s, x.sheet(s, 0, 1), 1);
            Due.is("cell of " + s, x.cell(s, 0, 1), 1);
            Due.is("film of " + s, x.film(s, 1), 1);
        }
        for (int s : Due.outside(0, 3)) {
            Due.is("sheet " + s, x.sheet(s, 0, 1), BAD);
            Due.is("cell of " + s, x.cell(s, 0, 1), BAD);
            Due.is("film of " + s, x.film(s, 1), BAD);
            Due.is("copy of " + s, x.copy(s, 0, 0, 0, 0), BAD);
            Due.is("copy to " + s, x.copy(0, 0, s, 0, 0), BAD);
            Due.is("court by " + s, x.court(s, 0, 0, 0), BAD);
        }
    }

    /** or missing (as all are at first). */
    private static void sheetsAreMissingAtFirst() {
        NobodyCanLiftIt x = withOneGone();
        for (int s = 0; s < 4; s++) {
            Due.is("cell", x.cell(s, 0, 0), MISSING);
            Due.is("copy", x.copy(s, 0, s, 0, 0), MISSING);
            Due.is("tells", x.tells(s, 0, 0), MISSING);
            for (int sort = 0; sort < 3; sort++) {
                Due.is("court", x.court(s, sort, 0, 0), MISSING);
            }
        }
    }

    /** of sort 0 bytes, 1 shorts, 2 ints. */
    private static void sortsAreThree() {
        NobodyCanLiftIt x = new NobodyCanLiftIt();
        for (int sort = 0; sort < 3; sort++) {
            Due.is("becomes", x.sheet(0, sort, 3), 1);
            for (int other = 0; other < 3; other++) {
                Due.is("taken for " + other, x.court(0, other, 0, 0), other == sort ? 0 : UNLIKE);
            }
        }
        for (int sort : Due.outside(-1, 2)) {
            Due.is("no sort " + sort, x.sheet(0, sort, 3), BAD);
        }
        Due.is("of ints still", x.court(0, 2, 0, 0), 0);
    }

    /** a row of n of a sort: n 0 .. 40; BAD: n above 40; -14. */
    private static void sizesAreWithinTheirBounds() {
        NobodyCanLiftIt x = new NobodyCanLiftIt();
        for (int sort = 0; sort < 3; sort++) {
            for (int n : new int[] {0, 1, 39, 40}) {
                Due.is("a row of " + n, x.sheet(0, sort, n), 1);
                Due.is("its last item", x.cell(0, n - 1, 1), n == 0 ? OUTSIDE : 1);
                Due.is("none behind it", x.cell(0, n, 1), OUTSIDE);
            }
            Due.is("41", x.sheet(0, sort, 41), BAD);
            Due.is("far more", x.sheet(0, sort, Integer.MAX_VALUE), BAD);
            Due.is("-1", x.sheet(0, sort, -1), NEGATIVE);
            Due.is("far less", x.sheet(0, sort, Integer.MIN_VALUE), NEGATIVE);
            Due.is("40 still", x.cell(0, 39, 1), 1);
        }
    }

    /** all 0: also where a row, longer or shorter, of this sort or another, stood. */
    private static void aRowIsAllZero() {
        NobodyCanLiftIt x = withOneGone();
        for (int sort = 0; sort < 3; sort++) {
            Due.fill(x, 0, (sort + 1) % 3, 9, 9, 9, 9, 9);
            x.sheet(0, sort, 2);
            item(x, 0, sort, 0, 0);
            item(x, 0, sort, 1, 0);
            x.sheet(0, sort, 5);
            for (int i = 0; i < 5; i++) {
                item(x, 0, sort, i, 0);
            }
            x.cell(0, 4, 7);
            x.sheet(0, -1, 0);
            x.sheet(0, sort, 5);
            item(x, 0, sort, 4, 0);
            x.cell(0, 4, 7);
            x.film(0, 0);
            x.sheet(0, sort, 5);
            item(x, 0, sort, 4, 0);
        }
    }

    /** or missing (sort -1: n does not matter): 1; also what is missing. */
    private static void aRowGoesMissing() {
        NobodyCanLiftIt x = new NobodyCanLiftIt();
        for (int n : new int[] {0, 1, 40, 41, -1, Integer.MAX_VALUE, Integer.MIN_VALUE}) {
            x.sheet(1, 2, 3);
            Due.is("goes", x.sheet(1, -1, n), 1);
            Due.is("is gone", x.cell(1, 0, 0), MISSING);
            Due.is("goes again", x.sheet(1, -1, n), 1);
            Due.is("is gone still", x.cell(1, 0, 0), MISSING);
        }
    }

    /** Whether one of this AGE comes by a cell that became v. */
    private static void comes(int sort, int v, int age) {
        NobodyCanLiftIt x = new NobodyCanLiftIt();
        Due.fill(x, 0, sort, 0, 0, v);
        Due.is("one comes by " + v + " of sort " + sort, x.court(0, sort, 0, 1), age < 0 ? 0 : 1);
        Due.is("of age", x.told(0, 4), age < 0 ? BAD : age);
    }

    /** of bytes .. its lowest 8 bits. */
    private static void bytesKeepTheirLowest8() {
        int[][] kept = {{0, 0}, {127, 127}, {128, -1}, {255, -1}, {256, 0}, {383, 127}, {384, -1}, {-1, -1}, {-128, -1},
            {-129, 127}, {-255, 1}, {-256, 0}, {65536 + 5, 5}, {Integer.MAX_VALUE, -1}, {Integer.MIN_VALUE, 0},
            {Integer.MIN_VALUE + 99, 99}};
        for (int[] k : kept) {
            comes(0, k[0], k[1]);
        }
    }

    /** shorts its lowest 16 bits. */
    private static void shortsKeepTheirLowest16() {
        int[][] kept = {{0, 0}, {128, 128}, {255, 255}, {256, 256}, {999, 999}, {1000, -1}, {32767, -1}, {32768, -1},
            {65535, -1}, {65536, 0}, {66535, 999}, {66536, -1}, {-1, -1}, {-65536, 0}, {-65535, 1}, {-64537, 999},
            {Integer.MAX_VALUE, -1}, {Integer.MIN_VALUE, 0}, {Integer.MIN_VALUE + 999, 999}};
        for (int[] k : kept) {
            comes(1, k[0], k[1]);
        }
    }

    /** ints keep all. */
    private static void intsKeepAll() {
        int[][] kept = {{0, 0}, {999, 999}, {1000, -1}, {65536, -1}, {65536 + 5, -1}, {-65536, -1}, {-256, -1},
            {Integer.MAX_VALUE, -1}, {Integer.MIN_VALUE, -1}};
        for (int[] k : kept) {
            comes(2, k[0], k[1]);
        }
    }

    /** Item i of a SHEET becomes v: 1. -12: a place outside. */
    private static void cellsAtTheEnds() {
        NobodyCanLiftIt x = withOneGone();
        for (int sort = 0; sort < 3; sort++) {
            x.sheet(0, sort, 40);
            Due.is("the first", x.cell(0, 0, 3), 1);
            Due.is("the last", x.cell(0, 39, 4), 1);
            item(x, 0, sort, 0, 3);
            item(x, 0, sort, 1, 0);
            item(x, 0, sort, 38, 0);
            item(x, 0, sort, 39, 4);
            for (int i : Due.outside(0, 39)) {
                Due.is("outside, " + i, x.cell(0, i, 9), OUTSIDE);
            }
            x.sheet(0, sort, 0);
            Due.is("an empty row has none", x.cell(0, 0, 1), OUTSIDE);
        }
    }

    /** n numbers of a SHEET, from item i on, come to another one's item j on: n; -12 (also with n below 0). */
    private static void copiesAtTheEnds() {
        NobodyCanLiftIt x = new NobodyCanLiftIt();
        x.sheet(0, 1, 5);
        x.sheet(1, 1, 3);
        for (int i = -1; i <= 6; i++) {
            for (int j = -1; j <= 4; j++) {
                for (int n = -1; n <= 6; n++) {
                    boolean fits = i >= 0 && j >= 0 && n >= 0 && i + n <= 5 && j + n <= 3;
                    Due.is("copy(0, " + i + ", 1, " + j + ", " + n + ")", x.copy(0, i, 1, j, n), fits ? n : OUTSIDE);
                }
            }
        }
        int most = Integer.MAX_VALUE;
        int[][] far = {{most, 0, 1}, {0, most, 1}, {0, 0, most}, {1, 1, most}, {most, most, most}, {most, most, 0}};
        for (int[] f : far) {
            Due.is("far outside", x.copy(0, f[0], 1, f[1], f[2]), OUTSIDE);
            Due.is("far outside below", x.copy(0, -f[0] - 1, 1, -f[1] - 1, -f[2] - 1), OUTSIDE);
        }
    }

    /** n 0: nothing comes, as long as both places are no farther than the rows' ends. */
    private static void copiesOfNothing() {
        NobodyCanLiftIt x = new NobodyCanLiftIt();
        x.sheet(0, 0, 0);
        x.sheet(1, 0, 40);
        Due.is("from an empty one", x.copy(0, 0, 1, 40, 0), 0);
        Due.is("to an empty one", x.copy(1, 40, 0, 0, 0), 0);
        Due.is("behind the end", x.copy(1, 41, 0, 0, 0), OUTSIDE);
        Due.is("behind the empty one's end", x.copy(1, 0, 0, 1, 0), OUTSIDE);
        Due.is("one from an empty one", x.copy(0, 0, 1, 0, 1), OUTSIDE);
        Due.is("all", x.copy(1, 0, 1, 0, 40), 40);
    }

    /** (as they were): in the same SHEET, too, whichever way. */
    private static void copiesAsTheyWere() {
        for (int sort = 0; sort < 3; sort++) {
            for (int i = 0; i <= 4; i++) {
                for (int j = 0; j <= 4; j++) {
                    NobodyCanLiftIt x = withOneGone();
                    Due.fill(x, 0, sort, 1, 2, 3, 4, 5, 6, 7);
                    Due.is("three", x.copy(0, i, 0, j, 3), 3);
                    for (int k = 0; k < 7; k++) {
                        item(x, 0, sort, k, k >= j && k < j + 3 ? k - j + i + 1 : k + 1);
                    }
                }
            }
        }
    }

    /** A SHEET truly becomes what it lies ON behind 1, .., n YEARS (n 0 .. 20; bytes): n; whatever it was. */
    private static void filmTruly() {
        NobodyCanLiftIt x = new NobodyCanLiftIt();
        x.person(1, 0, 0);
        for (int n : new int[] {0, 1, 2, 19, 20}) {
            for (int before = -1; before < 3; before++) {
                x.sheet(0, before, 40);
                x.cell(0, 39, 9);
                Due.is("film of " + n, x.film(0, n), n);
                Due.is("of bytes", x.court(0, 0, 0, 0), 0);
                Due.is("of " + n, x.copy(0, n, 0, n, 0), 0);
                Due.is("and no more", x.cell(0, n, 0), OUTSIDE);
                Due.is("as told", x.tells(0, 0, 0), -1);
            }
        }
        // 20 go through 5, 10, 15.
        int[] lies = {1, 2, 3, 3};
        for (int i = 0; i < lies.length; i++) {
            x.film(0, 20);
            x.set(6, 0, 0);
            item(x, 0, 0, i, lies[i]);
            x.set(6, 0, 1);
            x.set(1, 0, 0);
        }
        Due.is("in thought: year", x.count(2), 0);
        Due.is("in thought: age", x.told(0, 4), 0);
    }

    /** from one on, three by three (as of person()), n of them (0 .. 5): how many came. */
    private static void courtThreeByThree() {
        for (int sort = 0; sort < 3; sort++) {
            for (int n = 0; n <= 5; n++) {
                NobodyCanLiftIt x = new NobodyCanLiftIt();
                Due.fill(x, 0, sort, 7, 0, 1, 2, 1, 2, 3, 2, 3, 4, 3, 4, 5, 4, 5, 6);
                Due.is("came", x.court(0, sort, 1, n), n);
                Due.is("so many", x.count(0), n);
                for (int i = 0; i < 5; i++) {
                    Due.is("kind", x.told(i, 7), i < n ? i : BAD);
                    Due.is("number", x.told(i, 3), i < n ? i + 1 : BAD);
                    Due.is("age", x.told(i, 4), i < n ? i + 2 : BAD);
                    Due.is("ease", x.told(i, 5), i < n ? 0 : BAD);
                    Due.is("here", x.told(i, 6), i < n ? 1 : BAD);
                }
            }
        }
        NobodyCanLiftIt x = new NobodyCanLiftIt();
        for (int n : Due.outside(0, 5)) {
            x.sheet(0, 0, 40);
            Due.is(n + " of them", x.court(0, 0, 0, n), BAD);
        }
    }

    /** from one on: wherever in the longest row there is. */
    private static void courtFromAnyPlace() {
        for (int sort = 0; sort < 3; sort++) {
            for (int from = 0; from <= 40; from++) {
                NobodyCanLiftIt x = new NobodyCanLiftIt();
                x.sheet(0, sort, 40);
                for (int i = 0; i < 40; i++) {
                    x.cell(0, i, i * 7 / 3 % 6);
                }
                Due.is("came from " + from, x.court(0, sort, from, 1), from <= 37 ? 1 : OUTSIDE);
                Due.is("kind", x.told(0, 7), from <= 37 ? from * 7 / 3 % 6 : BAD);
                Due.is("number", x.told(0, 3), from <= 37 ? (from + 1) * 7 / 3 % 6 : BAD);
                Due.is("age", x.told(0, 4), from <= 37 ? (from + 2) * 7 / 3 % 6 : BAD);
            }
        }
    }

    /** (others are left out): by each number that is not as of person(). */
    private static void courtLeavesOut() {
        int[][] wrong = {{-1, 0, 0}, {6, 0, 0}, {0, -1, 0}, {0, 10, 0}, {0, 0, -1}, {0, 0, 1000}};
        for (int[] w : wrong) {
            NobodyCanLiftIt x = new NobodyCanLiftIt();
            Due.fill(x, 0, 2, 5, 9, 999, w[0], w[1], w[2], 0, 0, 0);
            Due.is("the first and the third", x.court(0, 2, 0, 3), 2);
            Due.is("the first", x.told(0, 4), 999);
            Due.is("the third", x.told(1, 4), 0);
            Due.is("the second alone", x.court(0, 2, 3, 1), 0);
        }
    }

    /** others are left out: for whom no room is. */
    private static void courtWhenThereIsNoRoom() {
        for (int ahead = 0; ahead <= 5; ahead++) {
            NobodyCanLiftIt x = new NobodyCanLiftIt();
            for (int i = 0; i < ahead; i++) {
                x.person(0, 9, 9);
            }
            x.sheet(0, 1, 15);
            Due.is("came", x.court(0, 1, 0, 5), 5 - ahead);
            Due.is("five", x.count(0), 5);
        }
    }

    /** -12: what stood ahead came. */
    private static void courtOutside() {
        for (int size = 0; size <= 15; size++) {
            for (int from = -3; from <= 16; from++) {
                NobodyCanLiftIt x = new NobodyCanLiftIt();
                x.sheet(0, 0, size);
                int whole = from < 0 ? 0 : Math.max(0, (size - from) / 3);
                Due.is("five of " + size + " from " + from, x.court(0, 0, from, 5), whole >= 5 ? 5 : OUTSIDE);
                Due.is("what stood ahead", x.count(0), whole);
            }
        }
        for (int from : new int[] {Integer.MAX_VALUE, Integer.MAX_VALUE - 2, Integer.MIN_VALUE, -1}) {
            NobodyCanLiftIt x = new NobodyCanLiftIt();
            x.sheet(0, 0, 40);
            Due.is("from " + from, x.court(0, 0, from, 5), OUTSIDE);
            Due.is("nobody came", x.count(0), 0);
        }
    }

    /** n of them (0 ..): no place is looked at. */
    private static void courtOfNobody() {
        NobodyCanLiftIt x = new NobodyCanLiftIt();
        x.sheet(0, 2, 0);
        Due.is("of an empty one", x.court(0, 2, 0, 0), 0);
        Due.is("from outside", x.court(0, 2, 7, 0), 0);
        Due.is("from below", x.court(0, 2, -7, 0), 0);
        Due.is("of another sort", x.court(0, 1, 0, 0), UNLIKE);
        Due.is("of none", x.court(1, 1, 0, 0), MISSING);
    }

    /** taken for one of KIND k (0 .. 5), or one under that one (also by others between): the NUMBER; -13. */
    private static void takenForOneAbove() {
        int[][] above = {{0}, {1, 0}, {2, 0}, {3, 1, 0}, {4, 2, 0}, {5, 0}};
        for (int kind = 0; kind < 6; kind++) {
            NobodyCanLiftIt x = new NobodyCanLiftIt();
            x.person(kind, 7, 0);
            for (int k = 0; k < 6; k++) {
                int want = UNLIKE;
                for (int a : above[kind]) {
                    want = a == k ? 7 : want;
                }
                Due.is("kind " + kind + " taken for " + k, x.taken(0, k), want);
            }
            for (int k : Due.outside(0, 5)) {
                Due.is("taken for " + k, x.taken(0, k), BAD);
                Due.is("none such taken for " + k, x.taken(1, k), BAD);
            }
            for (int one : Due.outside(0, 0)) {
                Due.is(one + " taken", x.taken(one, 0), MISSING);
            }
        }
    }

    /** the NUMBER: 0, too, 9, too, as it is now, and of who isn't HERE. */
    private static void takenWhateverElse() {
        NobodyCanLiftIt x = new NobodyCanLiftIt();
        x.person(3, 0, 0);
        Due.is("0", x.taken(0, 1), 0);
        x.set(3, 0, 9);
        Due.is("9", x.taken(0, 0), 9);
        x.set(6, 0, 0);
        Due.is("gone", x.taken(0, 3), 9);
    }
}
