/** Promises 25 to 29: sheet, cell, copy, court, taken. */
public final class HostTest {
    private static final int[] NO_SHEETS = {-1, 4, Integer.MAX_VALUE, Integer.MIN_VALUE};

    public static void main(String[] args) {
        sheets();
        cells();
        copies();
        copiesRefused();
        courts();
        courtsRefused();
        courtsOutside();
        takenFor();
        Due.end();
    }

    private static void sheets() {
        NobodyCanLiftIt x = new NobodyCanLiftIt();
        for (int bad : NO_SHEETS) {
            Due.is("no such sheet", x.sheet(bad, 0, 1), -2);
            Due.is("no such sheet, ahead of a size below 0", x.sheet(bad, 0, -1), -2);
            Due.is("no such sheet to miss", x.sheet(bad, -1, 1), -2);
        }
        for (int bad : new int[] {-2, 3, Integer.MAX_VALUE, Integer.MIN_VALUE}) {
            Due.is("no such sort", x.sheet(0, bad, 1), -2);
            Due.is("no such sort, ahead of a size below 0", x.sheet(0, bad, -1), -2);
        }
        for (int bad : new int[] {41, Integer.MAX_VALUE}) {
            Due.is("too large", x.sheet(0, 0, bad), -2);
        }
        for (int bad : new int[] {-1, Integer.MIN_VALUE}) {
            Due.is("a size below 0", x.sheet(0, 0, bad), -14);
        }
        Due.is("still missing", x.cell(0, 0, 0), -11);
        for (int sort = 0; sort < 3; sort++) {
            Due.is("40", x.sheet(sort, sort, 40), 1);
            Due.is("its last item", x.cell(sort, 39, 1), 1);
            Due.is("a refused size changes nothing", x.sheet(sort, sort, -1), -14);
            Due.is("nor a larger one", x.sheet(sort, sort, 41), -2);
            Due.is("its last item still", x.cell(sort, 39, 1), 1);
            Due.is("0", x.sheet(sort, sort, 0), 1);
            Due.is("no item", x.cell(sort, 0, 0), -12);
        }
        for (int n : new int[] {0, 7, 41, -1, Integer.MAX_VALUE, Integer.MIN_VALUE}) {
            x.sheet(3, 0, 1);
            Due.is("missing", x.sheet(3, -1, n), 1);
            Due.is("is missing", x.cell(3, 0, 0), -11);
        }
        x.person(0, 0, 0);
        Due.fill(x, 0, 2, 9, 9, 9);
        Due.is("9", x.tells(0, 0, 0), 0);
        x.sheet(0, 2, 3);
        x.set(6, 0, 0);
        Due.is("all 0 anew", x.tells(0, 0, 0), -1);
    }

    private static void cells() {
        NobodyCanLiftIt x = new NobodyCanLiftIt();
        for (int bad : NO_SHEETS) {
            Due.is("no such sheet", x.cell(bad, 0, 0), -2);
        }
        Due.is("missing, ahead of a place outside", x.cell(0, -1, 0), -11);
        x.sheet(0, 0, 3);
        for (int bad : new int[] {-1, 3, 40, Integer.MAX_VALUE, Integer.MIN_VALUE}) {
            Due.is("outside", x.cell(0, bad, 0), -12);
        }
        for (int i = 0; i < 3; i++) {
            Due.is("inside", x.cell(0, i, Integer.MIN_VALUE), 1);
        }
        // 258 is 2 in a byte, 65538 in a short; what a byte has above 127 is below 0.
        people(0, 256 + 1, 512 + 2, 256 + 127, 1, 2, 127);
        people(0, 0, 0, 128, -2, -2, -2);
        people(0, -256, -249, 255 + 256, -2, -2, -2);
        people(1, 65536 + 1, 131072 + 2, 65536 + 999, 1, 2, 999);
        people(1, 0, 0, 256, 0, 0, 256);
        people(1, 0, 0, 65535, -2, -2, -2);
        people(2, 5, 9, 999, 5, 9, 999);
        people(2, 65536, 0, 0, -2, -2, -2);
        people(2, 0, 0, 65536 + 20, -2, -2, -2);
    }

    private static void people(int sort, int a, int b, int c, int kind, int number, int age) {
        NobodyCanLiftIt x = new NobodyCanLiftIt();
        Due.fill(x, 0, sort, a, b, c);
        Due.is("comes", x.court(0, sort, 0, 1), kind < 0 ? 0 : 1);
        Due.is("kind", x.told(0, 7), kind);
        Due.is("number", x.told(0, 3), number);
        Due.is("age", x.told(0, 4), age);
    }

    /** What the sheet holds, read as told years: nobody is here, so the sword stays on the floor that an item names. */
    private static void holds(NobodyCanLiftIt x, int sheet, int... want) {
        for (int i = 0; i < want.length; i++) {
            x.set(1, 0, want[i]);
            x.sheet(3, 2, 1);
            Due.is("one item", x.copy(sheet, i, 3, 0, 1), 1);
            Due.is("item " + i + " is " + want[i], x.tells(3, 0, 0), -1);
        }
        Due.is("and no more", x.copy(sheet, want.length, 3, 0, 1), -12);
    }

    private static void copies() {
        NobodyCanLiftIt x = new NobodyCanLiftIt();
        x.person(0, 0, 0);
        x.set(6, 0, 0);
        Due.fill(x, 0, 2, 1, 2, 3, 4, 5);
        Due.fill(x, 1, 2, 6, 7, 8);
        Due.is("two", x.copy(0, 3, 1, 1, 2), 2);
        holds(x, 1, 6, 4, 5);
        holds(x, 0, 1, 2, 3, 4, 5);
        Due.is("upwards in itself", x.copy(0, 0, 0, 1, 4), 4);
        holds(x, 0, 1, 1, 2, 3, 4);
        Due.is("downwards in itself", x.copy(0, 1, 0, 0, 4), 4);
        holds(x, 0, 1, 2, 3, 4, 4);
        Due.is("on itself", x.copy(0, 0, 0, 0, 5), 5);
        holds(x, 0, 1, 2, 3, 4, 4);
        Due.is("none", x.copy(0, 5, 1, 3, 0), 0);
        Due.is("all", x.copy(1, 0, 0, 2, 3), 3);
        holds(x, 0, 1, 2, 6, 4, 5);
    }

    private static void copiesRefused() {
        NobodyCanLiftIt x = new NobodyCanLiftIt();
        x.person(0, 0, 0);
        x.set(6, 0, 0);
        for (int bad : NO_SHEETS) {
            Due.is("no such sheet", x.copy(bad, 0, 0, 0, 0), -2);
            Due.is("no such other one", x.copy(0, 0, bad, 0, 0), -2);
        }
        Due.is("both missing", x.copy(0, 0, 1, 0, 0), -11);
        Due.fill(x, 0, 2, 1, 2, 3);
        Due.is("the other missing, ahead of a place", x.copy(0, -1, 1, -1, -1), -11);
        Due.is("the first missing", x.copy(1, 0, 0, 0, 1), -11);
        x.sheet(1, 1, 3);
        Due.is("unlike, ahead of a place", x.copy(0, -1, 1, 0, 1), -13);
        Due.is("unlike, with nothing to copy", x.copy(1, 0, 0, 0, 0), -13);
        x.sheet(2, 2, 4);
        int[][] outside = {{-1, 0, 1}, {0, -1, 1}, {0, 0, -1}, {3, 0, 1}, {0, 4, 1}, {0, 0, 4}, {1, 0, 3}, {0, 2, 3},
            {4, 0, 0}, {0, 5, 0}, {-1, 0, 0}, {0, -1, 0}, {1, 0, Integer.MAX_VALUE}, {Integer.MAX_VALUE, 0, 1},
            {0, Integer.MAX_VALUE, Integer.MAX_VALUE}, {Integer.MIN_VALUE, 0, 1}, {0, 0, Integer.MIN_VALUE},
            {Integer.MAX_VALUE, Integer.MAX_VALUE, Integer.MAX_VALUE}};
        for (int[] o : outside) {
            Due.is("outside: " + o[0] + " " + o[1] + " " + o[2], x.copy(0, o[0], 2, o[1], o[2]), -12);
        }
        holds(x, 0, 1, 2, 3);
        holds(x, 2, 0, 0, 0, 0);
    }

    private static void courts() {
        NobodyCanLiftIt x = new NobodyCanLiftIt();
        Due.fill(x, 0, 2, 99, 1, 2, 30, 6, 0, 0, 5, 9, 999, 0, 10, 0, 3, 0, 0);
        Due.is("none of them", x.court(0, 2, 1, 0), 0);
        Due.is("three of five", x.court(0, 2, 1, 5), 3);
        Due.is("count", x.count(0), 3);
        int[][] came = {{1, 2, 30}, {5, 9, 999}, {3, 0, 0}};
        for (int i = 0; i < came.length; i++) {
            Due.is("kind", x.told(i, 7), came[i][0]);
            Due.is("number", x.told(i, 3), came[i][1]);
            Due.is("age", x.told(i, 4), came[i][2]);
            Due.is("here", x.told(i, 6), 1);
            Due.is("ease", x.told(i, 5), 0);
        }
        Due.is("there is room for two", x.court(0, 2, 1, 5), 2);
        Due.is("the last one", x.told(4, 7), 5);
        Due.is("there is room for none", x.court(0, 2, 1, 5), 0);
        Due.is("five", x.count(0), 5);
    }

    private static void courtsRefused() {
        NobodyCanLiftIt x = new NobodyCanLiftIt();
        for (int bad : NO_SHEETS) {
            Due.is("no such sheet", x.court(bad, 0, 0, 0), -2);
        }
        for (int bad : new int[] {-2, -1, 3, Integer.MAX_VALUE, Integer.MIN_VALUE}) {
            Due.is("no such sort", x.court(0, bad, 0, 0), -2);
        }
        for (int bad : new int[] {-1, 6, Integer.MAX_VALUE, Integer.MIN_VALUE}) {
            Due.is("no such n", x.court(0, 0, 0, bad), -2);
        }
        Due.is("missing", x.court(0, 0, 0, 1), -11);
        x.sheet(0, 1, 3);
        Due.is("of another sort, bytes", x.court(0, 0, 0, 1), -13);
        Due.is("of another sort, ints", x.court(0, 2, 9, 1), -13);
        Due.is("of another sort, though none is asked", x.court(0, 2, 0, 0), -13);
        Due.is("nobody came", x.count(0), 0);
        Due.is("of that sort", x.court(0, 1, 0, 1), 1);
    }

    private static void courtsOutside() {
        for (int from : new int[] {-1, -3, 4, 5, 6, 7, Integer.MAX_VALUE, Integer.MIN_VALUE}) {
            NobodyCanLiftIt x = new NobodyCanLiftIt();
            x.sheet(0, 2, 6);
            Due.is("outside from " + from, x.court(0, 2, from, 1), -12);
            Due.is("outside, all", x.court(0, 2, from, 5), -12);
            Due.is("nobody came", x.count(0), 0);
            Due.is("nothing is looked at", x.court(0, 2, from, 0), 0);
        }
        NobodyCanLiftIt x = new NobodyCanLiftIt();
        x.sheet(0, 2, 8);
        Due.is("the third is not whole", x.court(0, 2, 0, 3), -12);
        Due.is("what stood ahead came", x.count(0), 2);
        Due.is("from 2 on there are two", x.court(0, 2, 2, 2), 2);
        Due.is("from 5 on there is one", x.court(0, 2, 5, 2), -12);
        Due.is("it came", x.count(0), 5);
        Due.is("outside, though there is no room", x.court(0, 2, 0, 3), -12);
    }

    /** KING, CHILD, ENGINEER stand under MAN, QUEEN under KING, KNITTER under CHILD. */
    private static void takenFor() {
        NobodyCanLiftIt x = new NobodyCanLiftIt();
        Due.is("bad ahead of none such", x.taken(0, 6), -2);
        Due.is("none such", x.taken(0, 0), -11);
        boolean[][] under = {
            {true, false, false, false, false, false},
            {true, true, false, false, false, false},
            {true, false, true, false, false, false},
            {true, true, false, true, false, false},
            {true, false, true, false, true, false},
            {true, false, false, false, false, true}};
        for (int kind = 0; kind < 6; kind++) {
            NobodyCanLiftIt y = new NobodyCanLiftIt();
            y.person(kind, 4 + kind % 2, 0);
            for (int k = 0; k < 6; k++) {
                Due.is("kind " + kind + " for " + k, y.taken(0, k), under[kind][k] ? 4 + kind % 2 : -13);
            }
            y.set(6, 0, 0);
            y.set(3, 0, 9);
            Due.is("who is gone", y.taken(0, kind), 9);
            for (int bad : new int[] {-1, 6, Integer.MAX_VALUE, Integer.MIN_VALUE}) {
                Due.is("no such kind", y.taken(0, bad), -2);
                Due.is("no such kind, none such", y.taken(7, bad), -2);
            }
            for (int bad : new int[] {-1, 1, 5, Integer.MAX_VALUE, Integer.MIN_VALUE}) {
                Due.is("none such", y.taken(bad, 0), -11);
            }
        }
    }
}
