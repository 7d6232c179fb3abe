import java.math.BigInteger;
import java.util.ArrayList;
import java.util.List;

/** The document once more, written otherwise: fractions, people as objects that are copied, texts as trees. */
final class Model {
    static final long NO = -4611686018427387904L;

    /** A fraction in lowest terms. */
    static final class Fraction {
        final BigInteger above;
        final BigInteger below;

        Fraction(BigInteger above, BigInteger below) {
            BigInteger d = above.gcd(below);
            this.above = above.divide(d);
            this.below = below.divide(d);
        }

        static Fraction of(long above, long below) {
            return new Fraction(BigInteger.valueOf(above), BigInteger.valueOf(below));
        }

        Fraction plus(Fraction o) {
            return new Fraction(above.multiply(o.below).add(o.above.multiply(below)), below.multiply(o.below));
        }

        Fraction times(long a, long b) {
            return new Fraction(above.multiply(BigInteger.valueOf(a)), below.multiply(BigInteger.valueOf(b)));
        }

        int compare(Fraction o) {
            return above.multiply(o.below).compareTo(o.above.multiply(below));
        }

        long part(int part) {
            return part == 0 ? above.longValueExact() : part == 1 ? below.longValueExact() : NO;
        }
    }

    /** A tree of an E. */
    static final class Tree {
        final String deed;
        final Tree left;
        final Tree right;

        Tree(String deed, Tree left, Tree right) {
            this.deed = deed;
            this.left = left;
            this.right = right;
        }

        int tells(State s, Person p) {
            switch (deed) {
                case "age": return p.age;
                case "number": return p.number;
                case "floor": return s.on;
                case "year": return s.year;
                case "ease": return p.ease;
                case "others":
                    int others = 0;
                    for (Person o : s.people) {
                        others += o != p && o.here ? 1 : 0;
                    }
                    return others;
                case "neg": return -left.tells(s, p);
                case "not": return left.tells(s, p) == 0 ? 1 : 0;
                case "or": return left.tells(s, p) != 0 | right.tells(s, p) != 0 ? 1 : 0;
                case "and": return left.tells(s, p) != 0 & right.tells(s, p) != 0 ? 1 : 0;
                case "<": return left.tells(s, p) < right.tells(s, p) ? 1 : 0;
                case "=": return left.tells(s, p) == right.tells(s, p) ? 1 : 0;
                case "+": return left.tells(s, p) + right.tells(s, p);
                case "-": return left.tells(s, p) - right.tells(s, p);
                case "*": return left.tells(s, p) * right.tells(s, p);
                default: return Integer.parseInt(deed);
            }
        }
    }

    static final class Text {
        final Tree[] parts;

        Text(Tree... parts) {
            this.parts = parts;
        }
    }

    static final class Person {
        final int kind;
        int number;
        int age;
        int ease;
        boolean here = true;

        Person(int kind, int number, int age) {
            this.kind = kind;
            this.number = number;
            this.age = age;
        }

        Person as(int otherKind) {
            Person p = new Person(otherKind, number, age);
            p.ease = ease;
            p.here = here;
            return p;
        }
    }

    static final class State {
        int[] load = new int[10];
        int on;
        int year;
        Text rule;
        List<Person> people = new ArrayList<>();

        State copy() {
            State s = new State();
            s.load = load.clone();
            s.on = on;
            s.year = year;
            s.rule = rule;
            for (Person p : people) {
                s.people.add(p.as(p.kind));
            }
            return s;
        }

        int said(int part, Person p) {
            int v = rule.parts[part].tells(this, p);
            return v < 0 ? 0 : v > 99 ? 99 : v;
        }

        Fraction feels(Person p, int kind) {
            Fraction man = Fraction.of(said(0, p), p.number + 1);
            switch (kind) {
                case 0: return man;
                case 1: return man.times(2, 1);
                case 2: return p.age < 9 ? Fraction.of(0, 1) : man.times(1, 2);
                case 3:
                    Fraction queen = feels(p, 1).plus(Fraction.of(-p.ease, 1));
                    return queen.above.signum() < 0 ? Fraction.of(0, 1) : queen;
                case 4: return feels(p, 2).times(1, 3);
                default: return Fraction.of(said(0, p), 1);
            }
        }

        Fraction weight() {
            Fraction sum = Fraction.of(0, 1);
            for (Person p : people) {
                if (p.here) {
                    sum = sum.plus(feels(p, p.kind));
                }
            }
            return sum;
        }

        int strong(Person p, int kind) {
            int v = said(1, p);
            switch (kind) {
                case 0: return v;
                case 1: return p.number + strong(p, 0);
                case 2: return strong(p, 0) / 10;
                case 3: return p.ease < 50 ? strong(p, 1) : 2 * strong(p, 1);
                case 4: return p.ease + strong(p, 2);
                default: return v + (on == 10 ? 0 : load[on]);
            }
        }

        int eases(Person p, int kind) {
            int v = said(2, p);
            switch (kind) {
                case 0: return v;
                case 1: return 0;
                case 2: return 1 + eases(p, 0);
                case 3: return p.number;
                case 4: return 2 * eases(p, 2);
                default: return year % 2 == 0 ? eases(p, 0) : 0;
            }
        }

        boolean lifts(Person p) {
            return p.here && Fraction.of(strong(p, p.kind), 1).compare(weight()) >= 0;
        }

        State next() {
            State s = copy();
            if (on < 10 && weight().compare(Fraction.of(load[on], 1)) > 0) {
                s.on = on + 1;
            }
            for (int i = 0; i < people.size(); i++) {
                Person p = people.get(i);
                if (p.here) {
                    s.people.get(i).ease = Math.min(99, p.ease + eases(p, p.kind));
                }
                s.people.get(i).age = Math.min(999, p.age + 1);
            }
            s.year = year + 1;
            return s;
        }

        State behind(int n) {
            State s = this;
            for (int i = 0; i < n; i++) {
                s = s.next();
            }
            return s;
        }

        State turned(int one) {
            State s = copy();
            s.people.get(one).here = !s.people.get(one).here;
            return s;
        }

        int otherwise(int[] told) {
            for (int i = 0; i < told.length; i++) {
                if (behind(i + 1).on != told[i]) {
                    return i;
                }
            }
            return -1;
        }
    }

    State now = new State();
    State image;
    List<Text> texts = new ArrayList<>();
    StringBuilder tape = new StringBuilder();
    int[][] sheets = new int[4][];
    int[] sorts = {-1, -1, -1, -1};

    Model() {
        for (int f = 0; f < 10; f++) {
            now.load[f] = (f + 1) * 5;
        }
        texts.add(new Text(new Tree("10", null, null), new Tree("age", null, null), new Tree("1", null, null)));
        now.rule = texts.get(0);
    }

    private static boolean in(int v, int least, int most) {
        return least <= v && v <= most;
    }

    private boolean is(int one) {
        return in(one, 0, now.people.size() - 1);
    }

    int set(int what, int of, int v) {
        int was = in(what, 0, 6) ? told(of, what) : -2;
        if (was == -2) {
            return -2;
        }
        switch (what) {
            case 0: if (!in(v, 0, 999)) return -2; now.load[of] = v; break;
            case 1: if (!in(v, 0, 10)) return -2; now.on = v; break;
            case 2: if (!in(v, 0, 999)) return -2; now.year = v; break;
            case 3: if (!in(v, 0, 9)) return -2; now.people.get(of).number = v; break;
            case 4: if (!in(v, 0, 999)) return -2; now.people.get(of).age = v; break;
            case 5: if (!in(v, 0, 99)) return -2; now.people.get(of).ease = v; break;
            default: if (!in(v, 0, 1)) return -2; now.people.get(of).here = v == 1; break;
        }
        return was;
    }

    int person(int kind, int number, int age) {
        if (!in(kind, 0, 5) || !in(number, 0, 9) || !in(age, 0, 999)) {
            return -2;
        }
        if (now.people.size() == 5) {
            return -4;
        }
        now.people.add(new Person(kind, number, age));
        return now.people.size() - 1;
    }

    int told(int of, int what) {
        if (what == 0) {
            return in(of, 0, 9) ? now.load[of] : -2;
        }
        if (what == 1) {
            return now.on;
        }
        if (what == 2) {
            return now.year;
        }
        if (!in(what, 3, 10) || !is(of)) {
            return -2;
        }
        Person p = now.people.get(of);
        switch (what) {
            case 3: return p.number;
            case 4: return p.age;
            case 5: return p.ease;
            case 6: return p.here ? 1 : 0;
            case 7: return p.kind;
            case 8: return now.strong(p, p.kind);
            case 9: return now.eases(p, p.kind);
            default: return now.lifts(p) ? 1 : 0;
        }
    }

    long feels(int one, int part) {
        return is(one) ? now.feels(now.people.get(one), now.people.get(one).kind).part(part) : NO;
    }

    long weight(int part) {
        return now.weight().part(part);
    }

    int feed(int letter) {
        if (!in(letter, 0, 255)) {
            return -2;
        }
        if (tape.length() == 160) {
            return -4;
        }
        return tape.append((char) letter).length();
    }

    int text() {
        if (texts.size() == 6) {
            return -4;
        }
        ModelReader reader = new ModelReader(tape.toString());
        tape.setLength(0);
        if (reader.fault() >= 0) {
            return -100 - reader.fault();
        }
        texts.add(reader.text());
        return texts.size() - 1;
    }

    int force(int text) {
        if (!in(text, 0, texts.size() - 1)) {
            return -2;
        }
        int was = texts.indexOf(now.rule);
        now.rule = texts.get(text);
        return was;
    }

    int year() {
        if (now.year == 999) {
            return -3;
        }
        now = now.next();
        return now.on;
    }

    int lift(int one) {
        if (!is(one)) {
            return -2;
        }
        if (!now.lifts(now.people.get(one))) {
            return -3;
        }
        int was = now.on;
        now.on = 0;
        return was;
    }

    int run(int one, int n, int what) {
        if (!is(one) || !in(n, 0, 60) || !in(what, 0, 1)) {
            return -2;
        }
        return what == 0 ? now.behind(n).on : now.behind(n).people.get(one).ease;
    }

    long heavy(int n, int part) {
        return in(n, 0, 60) ? now.behind(n).weight().part(part) : NO;
    }

    int when(int of, int what) {
        if (what == 0 && is(of) || what == 1 && in(of, 0, 10)) {
            State s = now;
            for (int n = 0; n <= 60; n++) {
                if (what == 0 ? s.lifts(s.people.get(of)) : s.on >= of) {
                    return n;
                }
                s = s.next();
            }
            return -1;
        }
        return -2;
    }

    private int hereBits() {
        int bits = 0;
        for (int i = 0; i < now.people.size(); i++) {
            bits += now.people.get(i).here ? 1 << i : 0;
        }
        return bits;
    }

    private int leave() {
        for (int many = 0; many <= 5; many++) {
            for (int bits = 0; bits < 32; bits++) {
                if (Integer.bitCount(bits) == many && (bits & hereBits()) == bits) {
                    State s = now.copy();
                    boolean lifts = false;
                    for (int i = 0; i < s.people.size(); i++) {
                        s.people.get(i).here &= (bits >> i & 1) == 0;
                    }
                    for (Person p : s.people) {
                        lifts |= s.lifts(p);
                    }
                    if (lifts) {
                        return bits;
                    }
                }
            }
        }
        return -1;
    }

    int best(int what) {
        switch (what) {
            case 0: return leave();
            case 1: return leave() == -1 ? -1 : Integer.bitCount(leave());
            case 2:
                int who = -1;
                for (int i = 0; i < now.people.size(); i++) {
                    if (now.people.get(i).here
                        && (who < 0 || now.turned(i).weight().compare(now.turned(who).weight()) < 0)) {
                        who = i;
                    }
                }
                return who;
            case 3: return hereBits();
            default: return -2;
        }
    }

    int prop(int n, int k, int what) {
        if (!in(n, 0, 40) || !in(k, 1, 99) || !in(what, 0, 1)) {
            return -2;
        }
        int[] lies = new int[10];
        int least = now.behind(n).on;
        for (int f = 0; f < 10; f++) {
            State s = now.copy();
            s.load[f] = Math.min(999, s.load[f] + k);
            lies[f] = s.behind(n).on;
            least = Math.min(least, lies[f]);
        }
        if (what == 1) {
            return least;
        }
        for (int f = 0; f < 10; f++) {
            if (lies[f] == least && least < now.behind(n).on) {
                return f;
            }
        }
        return -1;
    }

    int sit(int n, int what) {
        if (!in(n, 0, 40) || !in(what, 0, 1)) {
            return -2;
        }
        int who = -1;
        for (int i = 0; i < now.people.size(); i++) {
            if (!now.people.get(i).here && (who < 0 || now.turned(i).behind(n).on < now.turned(who).behind(n).on)) {
                who = i;
            }
        }
        return what == 0 || who < 0 ? who : now.turned(who).behind(n).on;
    }

    private interface Would {
        void be(State s, int v);
    }

    /** By each v below many: whether all would be so. */
    private boolean[] so(int[] told, int many, Would would) {
        boolean[] so = new boolean[many];
        for (int v = 0; v < many; v++) {
            State s = now.copy();
            would.be(s, v);
            so[v] = s.otherwise(told) == -1;
        }
        return so;
    }

    private static int bits(boolean[] so) {
        int bits = 0;
        for (int i = 0; i < so.length; i++) {
            bits |= so[i] ? 1 << i : 0;
        }
        return bits;
    }

    private static int many(boolean[] so) {
        int many = 0;
        for (boolean b : so) {
            many += b ? 1 : 0;
        }
        return many;
    }

    private static int least(boolean[] so) {
        for (int i = 0; i < so.length; i++) {
            if (so[i]) {
                return i;
            }
        }
        return -1;
    }

    int tells(int sheet, int one, int what) {
        if (!in(sheet, 0, 3) || !is(one) || !in(what, 0, 8)) {
            return -2;
        }
        int[] told = sheets[sheet];
        if (told == null) {
            return -11;
        }
        if (told.length > 20) {
            return -2;
        }
        Would aged = (s, v) -> s.people.get(one).age = v;
        Would eased = (s, v) -> s.people.get(one).ease = v;
        switch (what) {
            case 0: return now.otherwise(told);
            case 1: return bits(so(told, 6, (s, v) -> s.people.set(one, s.people.get(one).as(v))));
            case 2: return bits(so(told, 10, (s, v) -> s.people.get(one).number = v));
            case 3: return many(so(told, 100, aged));
            case 4: return least(so(told, 100, aged));
            case 5: return many(so(told, 100, eased));
            case 6: return least(so(told, 100, eased));
            case 7: return bits(so(told, texts.size(), (s, v) -> s.rule = texts.get(v)));
            default: return bits(so(told, now.people.size(), (s, v) -> s.people.get(v).here ^= true));
        }
    }

    int film(int sheet, int n) {
        if (!in(sheet, 0, 3) || !in(n, 0, 20)) {
            return -2;
        }
        sheets[sheet] = new int[n];
        sorts[sheet] = 0;
        for (int i = 0; i < n; i++) {
            sheets[sheet][i] = now.behind(i + 1).on;
        }
        return n;
    }

    int drawn(int seed, int n) {
        if (!in(n, 0, 40)) {
            return -2;
        }
        State s = now;
        int z = seed;
        for (int i = 0; i < n; i++) {
            z = z * 1103515245 + 12345;
            int one = (z >>> 9) % 8;
            s = (one < s.people.size() ? s.turned(one) : s).next();
        }
        return s.on;
    }

    long chance(int seed, int m, int f, int part) {
        if (!in(m, 1, 20) || !in(f, 0, 10)) {
            return NO;
        }
        int low = 0;
        for (int i = 0; i < m; i++) {
            low += drawn(seed + i, 10) >= f ? 1 : 0;
        }
        return Fraction.of(low, m).part(part);
    }

    int image() {
        image = now.copy();
        return now.people.size();
    }

    int back() {
        if (image == null) {
            return -3;
        }
        now = image.copy();
        return now.people.size();
    }

    int count(int what) {
        switch (what) {
            case 0: return now.people.size();
            case 1: return Integer.bitCount(hereBits());
            case 2: return now.year;
            case 3: return texts.size();
            case 4: return tape.length();
            case 5: return texts.indexOf(now.rule);
            default: return -2;
        }
    }

    int sheet(int sheet, int sort, int n) {
        if (!in(sheet, 0, 3) || !in(sort, -1, 2) || sort >= 0 && n > 40) {
            return -2;
        }
        if (sort >= 0 && n < 0) {
            return -14;
        }
        sheets[sheet] = sort < 0 ? null : new int[n];
        sorts[sheet] = sort;
        return 1;
    }

    int cell(int sheet, int i, int v) {
        if (!in(sheet, 0, 3)) {
            return -2;
        }
        if (sheets[sheet] == null) {
            return -11;
        }
        if (!in(i, 0, sheets[sheet].length - 1)) {
            return -12;
        }
        sheets[sheet][i] = sorts[sheet] == 0 ? v << 24 >> 24 : sorts[sheet] == 1 ? v << 16 >> 16 : v;
        return 1;
    }

    int copy(int sheet, int i, int other, int j, int n) {
        if (!in(sheet, 0, 3) || !in(other, 0, 3)) {
            return -2;
        }
        if (sheets[sheet] == null || sheets[other] == null) {
            return -11;
        }
        if (sorts[sheet] != sorts[other]) {
            return -13;
        }
        if (n < 0 || i < 0 || j < 0 || (long) i + n > sheets[sheet].length || (long) j + n > sheets[other].length) {
            return -12;
        }
        int[] were = sheets[sheet].clone();
        for (int k = 0; k < n; k++) {
            sheets[other][j + k] = were[i + k];
        }
        return n;
    }

    int court(int sheet, int sort, int from, int n) {
        if (!in(sheet, 0, 3) || !in(sort, 0, 2) || !in(n, 0, 5)) {
            return -2;
        }
        if (sheets[sheet] != null && sorts[sheet] != sort) {
            return -13;
        }
        if (sheets[sheet] == null) {
            return -11;
        }
        int came = 0;
        for (int i = 0; i < n; i++) {
            long at = from + 3L * i;
            if (at < 0 || at + 3 > sheets[sheet].length) {
                return -12;
            }
            int[] s = sheets[sheet];
            came += person(s[(int) at], s[(int) at + 1], s[(int) at + 2]) >= 0 ? 1 : 0;
        }
        return came;
    }

    int taken(int one, int k) {
        if (!in(k, 0, 5)) {
            return -2;
        }
        if (!is(one)) {
            return -11;
        }
        String[] lines = {"0", "01", "02", "013", "024", "05"};
        Person p = now.people.get(one);
        return lines[p.kind].indexOf('0' + k) >= 0 ? p.number : -13;
    }
}
