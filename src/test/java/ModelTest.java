import java.util.Random;

/** Runs of calls that are drawn, each answer compared with what the model, written otherwise, answers. */
public final class ModelTest {
    private static final String[] PIECES = {"age", "number", "floor", "year", "ease", "others", "0", "1", "2", "7", "10",
        "50", "99", "100", "9999", "12345", "(", ")", "+", "-", "*", "<", "=", "or", "and", "not", ";", "feels", "x", "?"};
    private final Random random;
    private final NobodyCanLiftIt x = new NobodyCanLiftIt();
    private final Model m = new Model();
    private final String run;

    private ModelTest(int seed) {
        random = new Random(seed);
        run = "run " + seed + ": ";
    }

    public static void main(String[] args) {
        for (int seed = 0; seed < 400; seed++) {
            new ModelTest(seed).calls();
        }
        for (int seed = 1000; seed < 1600; seed++) {
            new ModelTest(seed).texts();
        }
        Due.end();
    }

    private int upTo(int most) {
        return random.nextInt(most + 1);
    }

    /** Mostly within its bounds, now and then a little or far outside. */
    private int about(int least, int most) {
        switch (random.nextInt(40)) {
            case 0: return least - 1;
            case 1: return most + 1;
            case 2: return random.nextInt();
            case 3: return most;
            case 4: return least;
            default: return least + random.nextInt(most - least + 1);
        }
    }

    private String one(int depth) {
        switch (random.nextInt(depth > 3 ? 6 : 9)) {
            case 6: return "(" + or(depth + 1) + ")";
            case 7: return "- " + one(depth + 1);
            default: return PIECES[random.nextInt(15)];
        }
    }

    private String sum(int depth) {
        StringBuilder s = new StringBuilder(one(depth));
        while (random.nextInt(3) == 0) {
            s.append(" +-*".charAt(1 + random.nextInt(3))).append(one(depth));
        }
        return s.toString();
    }

    private String not(int depth) {
        if (depth < 5 && random.nextInt(5) == 0) {
            return "not " + not(depth + 1);
        }
        return random.nextInt(3) > 0 ? sum(depth) : sum(depth) + (random.nextBoolean() ? " < " : "=") + sum(depth);
    }

    private String or(int depth) {
        String s = not(depth);
        while (random.nextInt(4) == 0) {
            s = s + (random.nextBoolean() ? " or " : "\nand ") + not(depth);
        }
        return s;
    }

    /** A text of the grammar, or one with a few tokens drawn into it. */
    private String drawnText() {
        String s = "";
        int tries = 0;
        do {
            s = "feels " + or(0) + "; strong " + or(0) + "; eases " + or(0) + ";";
        } while (s.length() > 160 && tries++ < 50);
        int spoilt = random.nextInt(3);
        for (int i = 0; i < spoilt && random.nextInt(3) == 0; i++) {
            int at = random.nextInt(s.length() + 1);
            int to = random.nextBoolean() ? at : Math.min(s.length(), at + random.nextInt(4));
            s = s.substring(0, at) + " " + PIECES[random.nextInt(PIECES.length)] + " " + s.substring(to);
        }
        return s.substring(0, Math.min(160, s.length()));
    }

    private void due(String call, long got, long want) {
        Due.is(run + call, got, want);
    }

    private int read(String text) {
        for (int i = 0; i < text.length(); i++) {
            x.feed(text.charAt(i));
            m.feed(text.charAt(i));
        }
        due("bytes", x.count(4), m.count(4));
        int number = x.text();
        due("text() of " + text, number, m.text());
        return number;
    }

    /** Many texts, each compared by what three people tell by it. */
    private void texts() {
        for (int i = 0; i < 2; i++) {
            int number = read(drawnText());
            if (number > 0) {
                x.force(number);
                m.force(number);
            }
        }
        for (int i = 0; i < 5; i++) {
            person();
            all();
            year();
        }
        all();
    }

    private void calls() {
        int texts = upTo(2);
        for (int i = 0; i < texts; i++) {
            read(drawnText());
        }
        int many = upTo(5);
        for (int i = 0; i < many; i++) {
            person();
        }
        for (int f = 0; f < 10; f++) {
            int v = random.nextInt(3) == 0 ? upTo(999) : upTo(60);
            due("set", x.set(0, f, v), m.set(0, f, v));
        }
        for (int i = 0; i < 60; i++) {
            call(random.nextInt(24));
        }
        all();
    }

    private void person() {
        int kind = about(0, 5), number = about(0, 9), age = random.nextBoolean() ? about(0, 12) : about(0, 999);
        due("person", x.person(kind, number, age), m.person(kind, number, age));
    }

    private void year() {
        due("year()", x.year(), m.year());
    }

    private void all() {
        for (int one = 0; one < 5; one++) {
            for (int what = 3; what <= 10; what++) {
                due("told(" + one + ", " + what + ")", x.told(one, what), m.told(one, what));
            }
            due("feels", x.feels(one, 0), m.feels(one, 0));
            due("feels", x.feels(one, 1), m.feels(one, 1));
        }
        due("weight(0)", x.weight(0), m.weight(0));
        due("weight(1)", x.weight(1), m.weight(1));
        for (int what = 0; what < 4; what++) {
            due("best(" + what + ")", x.best(what), m.best(what));
        }
        for (int what = 0; what < 6; what++) {
            due("count(" + what + ")", x.count(what), m.count(what));
        }
        for (int f = 0; f < 10; f++) {
            due("told(" + f + ", 0)", x.told(f, 0), m.told(f, 0));
        }
    }

    private void set() {
        int[] most = {999, 10, 999, 9, 999, 99, 1};
        int what = about(0, 6);
        int of = what == 0 ? about(0, 9) : about(0, 4);
        int v = about(0, what >= 0 && what < 7 ? most[what] : 9);
        if (random.nextInt(3) > 0 && (what == 1 || what == 0)) {
            v = Math.abs(v % 30);
        }
        due("set(" + what + ", " + of + ", " + v + ")", x.set(what, of, v), m.set(what, of, v));
    }

    private void call(int which) {
        int a = about(0, 4), b = about(0, 1), s = about(0, 3), n = about(0, 40), seed = random.nextInt();
        switch (which) {
            case 0: case 1: case 2: set(); break;
            case 3: person(); break;
            case 4: int k = about(0, 2); due("force", x.force(k), m.force(k)); break;
            case 5: year(); break;
            case 6: due("lift", x.lift(a), m.lift(a)); break;
            case 7: n = about(0, 60); due("run", x.run(a, n, b), m.run(a, n, b)); break;
            case 8: n = about(0, 60); due("heavy", x.heavy(n, b), m.heavy(n, b)); break;
            case 9: a = b == 1 ? about(0, 10) : a; due("when", x.when(a, b), m.when(a, b)); break;
            case 10: due("best", x.best(a), m.best(a)); break;
            case 11: k = about(1, 99); due("prop", x.prop(n, k, b), m.prop(n, k, b)); break;
            case 12: due("sit", x.sit(n, b), m.sit(n, b)); break;
            case 13: case 14: tells(s, a); break;
            case 15: n = about(0, 20); due("film", x.film(s, n), m.film(s, n)); break;
            case 16: due("drawn", x.drawn(seed, n), m.drawn(seed, n)); break;
            case 17:
                n = about(1, 20);
                int f = about(0, 10);
                due("chance", x.chance(seed, n, f, b), m.chance(seed, n, f, b));
                break;
            case 18: due("image", x.image(), m.image()); break;
            case 19: due("back", x.back(), m.back()); break;
            case 20: k = about(-1, 2); n = about(-1, 41); due("sheet", x.sheet(s, k, n), m.sheet(s, k, n)); break;
            case 21: host(s, n); break;
            case 22: k = about(0, 5); due("taken", x.taken(a, k), m.taken(a, k)); break;
            default: all(); break;
        }
    }

    private void tells(int sheet, int one) {
        if (random.nextInt(3) > 0) {
            int n = upTo(9);
            due("film", x.film(sheet, n), m.film(sheet, n));
        }
        if (random.nextInt(3) == 0) {
            int i = about(0, 8), v = about(0, 10);
            due("cell", x.cell(sheet, i, v), m.cell(sheet, i, v));
        }
        for (int what = 0; what < 9; what++) {
            due("tells(" + sheet + ", " + one + ", " + what + ")", x.tells(sheet, one, what), m.tells(sheet, one, what));
        }
    }

    private void host(int sheet, int n) {
        int other = about(0, 3), sort = about(0, 2), i = about(0, 20), j = about(0, 20), many = about(0, 20);
        due("cell", x.cell(sheet, i, n), m.cell(sheet, i, n));
        due("copy", x.copy(sheet, i, other, j, many), m.copy(sheet, i, other, j, many));
        due("sheet", x.sheet(sheet, sort, n), m.sheet(sheet, sort, n));
        for (int k = 0; k < 12; k++) {
            int v = k % 3 == 0 ? about(0, 5) : k % 3 == 1 ? about(0, 9) : about(0, 300);
            due("cell", x.cell(sheet, k, v), m.cell(sheet, k, v));
        }
        int from = about(0, 6), came = about(0, 5);
        due("court", x.court(sheet, sort, from, came), m.court(sheet, sort, from, came));
    }
}
