import java.util.Arrays;

/** A king's sword on a table in a hall over ten floors: how heavy it is, where it sinks, who can lift it. */
public final class NobodyCanLiftIt {
    public static final int NONE = -1, BAD = -2, STATE = -3, FULL = -4;
    public static final long NO = -4611686018427387904L;

    // What the host refuses.
    private static final int MISSING = -11, OUTSIDE = -12, UNLIKE = -13, NEGATIVE = -14;

    private static final int FLOORS = 10, ROCK = 10;
    private static final int MOST_LOAD = 999, MOST_YEAR = 999, MOST_AGE = 999, MOST_EASE = 99, MOST_NUMBER = 9;
    private static final int MOST_PEOPLE = 5;

    private static final int MAN = 0, KING = 1, CHILD = 2, QUEEN = 3, KNITTER = 4, ENGINEER = 5, KINDS = 6;
    // By kind, the kind that it is under.
    private static final int[] UNDER = {NONE, MAN, MAN, KING, CHILD, MAN};
    private static final int GROWN = 9, QUEENLY_EASE = 50;

    // Whatever anybody feels is a whole number of parts of this size: NUMBER and 1 is 10 at most,
    // a knitter halves it and takes a third of that, and this is the least that all those divide.
    private static final int WHOLE = 15120;

    // What set() and told() speak of.
    private static final int LOAD = 0, LIES_ON = 1, YEAR = 2, NUMBER = 3, AGE = 4, EASE = 5, HERE = 6, KIND = 7;
    private static final int STRENGTH = 8, EASING = 9, CAN_LIFT = 10;
    // By what set() speaks of, the most that it may become.
    private static final int[] MOST_SET = {MOST_LOAD, ROCK, MOST_YEAR, MOST_NUMBER, MOST_AGE, MOST_EASE, 1};

    // The parts of a text.
    private static final int FEELS = 0, STRONG = 1, EASES = 2;
    private static final int MOST_TEXTS = 6, MOST_TAPE = 160, MOST_DIGITS = 4, MOST_OPEN = 5, MOST_TOLD = 99;
    // Within five brackets each level keeps five operands waiting at most, so 31 are enough.
    private static final int STACK = 40;

    // Tokens: a sign is its own byte, the others are negative.
    private static final int ENDED = -1, STOPPED = -2, DIGITS = -3, NAME = -4;
    private static final int KEY_FEELS = -5, KEY_STRONG = -6, KEY_EASES = -7, KEY_OR = -8, KEY_AND = -9, KEY_NOT = -10;

    // Codes, in the order in which a stack wants them: a number is itself, a name or a deed is negative.
    private static final int NAME_AGE = -1, NAME_NUMBER = -2, NAME_FLOOR = -3, NAME_YEAR = -4, NAME_EASE = -5;
    private static final int NAME_OTHERS = -6, DO_NEGATE = -7, DO_NOT = -8;
    private static final int DO_OR = -9, DO_AND = -10, DO_LESS = -11, DO_SAME = -12, DO_ADD = -13, DO_TAKE = -14;
    private static final int DO_TIMES = -15;
    // feels 10 ; strong age ; eases 1 ;
    private static final int[] FIRST_CODE = {10, NAME_AGE, 1};

    private static final int MOST_YEARS = 60, MOST_THOUGHT = 40, MOST_PROP = 99, MOST_FILM = 20;
    private static final int SEEDS = 20, SEED_YEARS = 10;
    private static final int TRIED = 100;

    private static final int SHEETS = 4, ROW = 40, BYTES = 0, SHORTS = 1, INTS = 2;

    private final Hall now;
    // What would be is tried in this one, so that no call needs to make one.
    private final Hall thought;
    private final Hall kept;
    private boolean isKept;
    private final Rule[] texts = new Rule[MOST_TEXTS];
    private int textCount;
    private final Reader reader;
    private final Row[] rows = new Row[SHEETS];

    public NobodyCanLiftIt() {
        Rule first = new Rule(0, FIRST_CODE, 1, 2);
        texts[0] = first;
        textCount = 1;
        now = new Hall(first);
        thought = new Hall(first);
        kept = new Hall(first);
        reader = new Reader();
        for (int i = 0; i < SHEETS; i++) {
            rows[i] = new Row();
        }
    }

    // ---- floors, people

    public int set(int what, int of, int v) {
        if (what < 0 || what >= MOST_SET.length || v < 0 || v > MOST_SET[what]) {
            return BAD;
        }
        if (!now.knows(what, of)) {
            return BAD;
        }
        int was = now.value(what, of);
        now.put(what, of, v);
        return was;
    }

    public int person(int kind, int number, int age) {
        return now.comes(kind, number, age);
    }

    public int told(int of, int what) {
        if (what < 0 || what > CAN_LIFT || !now.knows(what, of)) {
            return BAD;
        }
        switch (what) {
            case STRENGTH: return now.strength(of);
            case EASING: return now.easing(of);
            case CAN_LIFT: return now.canLift(of, now.weighs()) ? 1 : 0;
            default: return now.value(what, of);
        }
    }

    public long feels(int one, int part) {
        if (!now.has(one) || !isPart(part)) {
            return NO;
        }
        return lowest(now.felt(one), WHOLE, part);
    }

    public long weight(int part) {
        return isPart(part) ? lowest(now.weighs(), WHOLE, part) : NO;
    }

    // ---- texts

    public int feed(int letter) {
        if (letter < 0 || letter > 255) {
            return BAD;
        }
        return reader.add(letter) ? reader.size : FULL;
    }

    public int text() {
        if (textCount < 0 || textCount >= MOST_TEXTS) {
            return FULL;
        }
        int fault = reader.readTape();
        if (fault != NONE) {
            return -100 - fault;
        }
        texts[textCount] = reader.ruleRead(textCount);
        textCount++;
        return textCount - 1;
    }

    public int force(int text) {
        Rule next = textAt(text);
        if (next == null) {
            return BAD;
        }
        int was = now.ruleNumber();
        now.rule = next;
        return was;
    }

    // ---- years

    public int year() {
        if (now.year >= MOST_YEAR) {
            return STATE;
        }
        now.pass();
        return now.on;
    }

    public int lift(int one) {
        if (!now.has(one)) {
            return BAD;
        }
        if (!now.canLift(one, now.weighs())) {
            return STATE;
        }
        int was = now.on;
        now.on = 0;
        return was;
    }

    public int run(int one, int n, int what) {
        if (!now.has(one) || n < 0 || n > MOST_YEARS || what < 0 || what > 1) {
            return BAD;
        }
        think(n);
        return what == 0 ? thought.on : thought.value(EASE, one);
    }

    public long heavy(int n, int part) {
        if (n < 0 || n > MOST_YEARS || !isPart(part)) {
            return NO;
        }
        think(n);
        return lowest(thought.weighs(), WHOLE, part);
    }

    public int when(int of, int what) {
        switch (what) {
            case 0: return now.has(of) ? whenLifted(of) : BAD;
            case 1: return of >= 0 && of <= ROCK ? whenDown(of) : BAD;
            default: return BAD;
        }
    }

    // ---- what would be best

    public int best(int what) {
        switch (what) {
            case 0: return fewestToLeave();
            case 1: return howMany(fewestToLeave());
            case 2: return lightestGoing();
            case 3: return now.hereBits();
            default: return BAD;
        }
    }

    public int prop(int n, int k, int what) {
        if (n < 0 || n > MOST_THOUGHT || k < 1 || k > MOST_PROP || what < 0 || what > 1) {
            return BAD;
        }
        think(n);
        int floor = NONE;
        int highest = thought.on;
        for (int f = 0; f < FLOORS; f++) {
            int lies = lieWithProp(n, f, k);
            if (lies < highest) {
                highest = lies;
                floor = f;
            }
        }
        return what == 0 ? floor : highest;
    }

    public int sit(int n, int what) {
        if (n < 0 || n > MOST_THOUGHT || what < 0 || what > 1) {
            return BAD;
        }
        int who = NONE;
        int highest = NONE;
        for (int one = 0; one < MOST_PEOPLE; one++) {
            if (now.has(one) && !now.isHere(one)) {
                int lies = lieWithGuest(n, one);
                if (who == NONE || lies < highest) {
                    highest = lies;
                    who = one;
                }
            }
        }
        return what == 0 ? who : highest;
    }

    // ---- floors that were told

    public int tells(int sheet, int one, int what) {
        Row row = rowAt(sheet);
        if (row == null || !now.has(one) || what < 0 || what > 8) {
            return BAD;
        }
        if (row.isMissing()) {
            return MISSING;
        }
        if (row.size > MOST_FILM) {
            return BAD;
        }
        switch (what) {
            case 0: return otherwiseNow(row);
            case 1: return fittingBits(row, one, KIND, KINDS);
            case 2: return fittingBits(row, one, NUMBER, MOST_NUMBER + 1);
            case 3: return fittingMany(row, one, AGE, false);
            case 4: return fittingMany(row, one, AGE, true);
            case 5: return fittingMany(row, one, EASE, false);
            case 6: return fittingMany(row, one, EASE, true);
            case 7: return fittingTexts(row);
            default: return fittingPeople(row);
        }
    }

    public int film(int sheet, int n) {
        Row row = rowAt(sheet);
        if (row == null || n < 0 || n > MOST_FILM) {
            return BAD;
        }
        row.become(BYTES, n);
        thought.take(now);
        for (int i = 0; i < n; i++) {
            thought.pass();
            row.put(i, thought.on);
        }
        return n;
    }

    public int drawn(int seed, int n) {
        return n < 0 || n > MOST_THOUGHT ? BAD : drawnFloor(seed, n);
    }

    public long chance(int seed, int m, int f, int part) {
        if (m < 1 || m > SEEDS || f < 0 || f > ROCK || !isPart(part)) {
            return NO;
        }
        int low = 0;
        for (int i = 0; i < m; i++) {
            if (drawnFloor(seed + i, SEED_YEARS) >= f) {
                low++;
            }
        }
        return lowest(low, m, part);
    }

    public int image() {
        kept.take(now);
        isKept = true;
        return now.people;
    }

    public int back() {
        if (!isKept) {
            return STATE;
        }
        now.take(kept);
        return now.people;
    }

    public int count(int what) {
        switch (what) {
            case 0: return now.people;
            case 1: return now.hereCount();
            case 2: return now.year;
            case 3: return textCount;
            case 4: return reader.size;
            case 5: return now.ruleNumber();
            default: return BAD;
        }
    }

    // ---- the host

    public int sheet(int sheet, int sort, int n) {
        Row row = rowAt(sheet);
        if (row == null || sort < NONE || sort > INTS) {
            return BAD;
        }
        if (sort == NONE) {
            row.vanish();
            return 1;
        }
        if (n > ROW) {
            return BAD;
        }
        if (n < 0) {
            return NEGATIVE;
        }
        row.become(sort, n);
        return 1;
    }

    public int cell(int sheet, int i, int v) {
        Row row = rowAt(sheet);
        if (row == null) {
            return BAD;
        }
        if (row.isMissing()) {
            return MISSING;
        }
        if (i < 0 || i >= row.size) {
            return OUTSIDE;
        }
        row.put(i, v);
        return 1;
    }

    public int copy(int sheet, int i, int other, int j, int n) {
        Row from = rowAt(sheet);
        Row to = rowAt(other);
        if (from == null || to == null) {
            return BAD;
        }
        if (from.isMissing() || to.isMissing()) {
            return MISSING;
        }
        if (from.sort != to.sort) {
            return UNLIKE;
        }
        if (!from.holds(i, n) || !to.holds(j, n)) {
            return OUTSIDE;
        }
        System.arraycopy(from.items, i, to.items, j, n);
        return n;
    }

    public int court(int sheet, int sort, int from, int n) {
        Row row = rowAt(sheet);
        if (row == null || sort < BYTES || sort > INTS || n < 0 || n > MOST_PEOPLE) {
            return BAD;
        }
        // As a missing sheet is of no sort, it is none of another one either.
        if (row.isMissing()) {
            return MISSING;
        }
        if (row.sort != sort) {
            return UNLIKE;
        }
        int came = 0;
        int at = from;
        for (int i = 0; i < n; i++) {
            if (!row.holds(at, 3)) {
                return OUTSIDE;
            }
            if (now.comes(row.item(at), row.item(at + 1), row.item(at + 2)) >= 0) {
                came++;
            }
            at += 3;
        }
        return came;
    }

    public int taken(int one, int k) {
        if (k < 0 || k >= KINDS) {
            return BAD;
        }
        if (!now.has(one)) {
            return MISSING;
        }
        return isUnder(now.value(KIND, one), k) ? now.value(NUMBER, one) : UNLIKE;
    }

    private static boolean isPart(int part) {
        return part == 0 || part == 1;
    }

    private static long lowest(int above, int below, int part) {
        int divisor = greatestDivisor(above, below);
        if (divisor < 1) {
            return NO;
        }
        return part == 0 ? above / divisor : below / divisor;
    }

    private static int greatestDivisor(int a, int b) {
        int left = a;
        int right = b;
        // Two ints take fewer than fifty steps.
        for (int i = 0; i < 100 && right != 0; i++) {
            int rest = left % right;
            left = right;
            right = rest;
        }
        return left;
    }

    private static boolean isUnder(int kind, int above) {
        int k = kind;
        for (int i = 0; i < KINDS && k >= 0 && k < UNDER.length; i++) {
            if (k == above) {
                return true;
            }
            k = UNDER[k];
        }
        return false;
    }

    private Rule textAt(int text) {
        return text >= 0 && text < textCount && text < texts.length ? texts[text] : null;
    }

    private Row rowAt(int sheet) {
        return sheet >= 0 && sheet < rows.length ? rows[sheet] : null;
    }

    private void think(int n) {
        thought.take(now);
        thought.passAll(n);
    }

    private int lieWithProp(int n, int floor, int k) {
        thought.take(now);
        thought.put(LOAD, floor, Math.min(MOST_LOAD, now.value(LOAD, floor) + k));
        thought.passAll(n);
        return thought.on;
    }

    private int lieWithGuest(int n, int one) {
        thought.take(now);
        thought.put(HERE, one, 1);
        thought.passAll(n);
        return thought.on;
    }

    private int whenLifted(int one) {
        thought.take(now);
        for (int n = 0; n <= MOST_YEARS; n++) {
            if (thought.canLift(one, thought.weighs())) {
                return n;
            }
            thought.pass();
        }
        return NONE;
    }

    private int whenDown(int floor) {
        thought.take(now);
        for (int n = 0; n <= MOST_YEARS; n++) {
            if (thought.on >= floor) {
                return n;
            }
            thought.pass();
        }
        return NONE;
    }

    private int fewestToLeave() {
        int here = now.hereBits();
        int best = NONE;
        for (int bits = 0; bits < 1 << MOST_PEOPLE; bits++) {
            boolean fewer = best == NONE || Integer.bitCount(bits) < Integer.bitCount(best);
            if (fewer && (bits & ~here) == 0 && isLiftedWithout(bits)) {
                best = bits;
            }
        }
        return best;
    }

    private boolean isLiftedWithout(int bits) {
        thought.take(now);
        for (int one = 0; one < MOST_PEOPLE; one++) {
            if ((bits >> one & 1) != 0) {
                thought.put(HERE, one, 0);
            }
        }
        int weight = thought.weighs();
        for (int one = 0; one < MOST_PEOPLE; one++) {
            if (thought.canLift(one, weight)) {
                return true;
            }
        }
        return false;
    }

    private static int howMany(int bits) {
        return bits == NONE ? NONE : Integer.bitCount(bits);
    }

    private int lightestGoing() {
        int who = NONE;
        int lightest = 0;
        for (int one = 0; one < MOST_PEOPLE; one++) {
            if (now.isHere(one)) {
                thought.take(now);
                thought.put(HERE, one, 0);
                int weighs = thought.weighs();
                if (who == NONE || weighs < lightest) {
                    lightest = weighs;
                    who = one;
                }
            }
        }
        return who;
    }

    private int otherwiseNow(Row row) {
        thought.take(now);
        return thought.firstOtherwise(row);
    }

    /** The v below many such that, were this of one v, all would be so: as bits. */
    private int fittingBits(Row row, int one, int what, int many) {
        int bits = 0;
        for (int v = 0; v < many; v++) {
            thought.take(now);
            thought.put(what, one, v);
            if (thought.firstOtherwise(row) == NONE) {
                bits |= 1 << v;
            }
        }
        return bits;
    }

    /** The v of 0 .. 99 such that, were this of one v, all would be so: how many, or the least. */
    private int fittingMany(Row row, int one, int what, boolean isLeast) {
        int many = 0;
        for (int v = 0; v < TRIED; v++) {
            thought.take(now);
            thought.put(what, one, v);
            if (thought.firstOtherwise(row) == NONE) {
                if (isLeast) {
                    return v;
                }
                many++;
            }
        }
        return isLeast ? NONE : many;
    }

    private int fittingTexts(Row row) {
        int bits = 0;
        for (int i = 0; i < textCount && i < texts.length; i++) {
            thought.take(now);
            thought.rule = texts[i];
            if (thought.firstOtherwise(row) == NONE) {
                bits |= 1 << i;
            }
        }
        return bits;
    }

    private int fittingPeople(Row row) {
        int bits = 0;
        for (int one = 0; one < MOST_PEOPLE; one++) {
            thought.take(now);
            thought.put(HERE, one, now.isHere(one) ? 0 : 1);
            if (now.has(one) && thought.firstOtherwise(row) == NONE) {
                bits |= 1 << one;
            }
        }
        return bits;
    }

    private int drawnFloor(int seed, int n) {
        thought.take(now);
        int z = seed;
        for (int i = 0; i < n; i++) {
            z = z * 1103515245 + 12345;
            int one = (z >>> 9) % 8;
            thought.put(HERE, one, thought.isHere(one) ? 0 : 1);
            thought.pass();
        }
        return thought.on;
    }

    /** The floors, the sword, the year and the people, by a rule: as they are, or in thought, or in the image. */
    private static final class Hall {
        private final int[] loads = new int[FLOORS];
        private final int[] kinds = new int[MOST_PEOPLE];
        private final int[] numbers = new int[MOST_PEOPLE];
        private final int[] ages = new int[MOST_PEOPLE];
        private final int[] eases = new int[MOST_PEOPLE];
        // 1 or 0; 0 for all who never came.
        private final int[] here = new int[MOST_PEOPLE];
        private final int[] gains = new int[MOST_PEOPLE];
        private final int[] stack = new int[STACK];
        private int people;
        private int on;
        private int year;
        private Rule rule;

        Hall(Rule first) {
            for (int f = 0; f < FLOORS; f++) {
                loads[f] = 5 * (f + 1);
            }
            rule = first;
        }

        void take(Hall other) {
            System.arraycopy(other.loads, 0, loads, 0, FLOORS);
            System.arraycopy(other.kinds, 0, kinds, 0, MOST_PEOPLE);
            System.arraycopy(other.numbers, 0, numbers, 0, MOST_PEOPLE);
            System.arraycopy(other.ages, 0, ages, 0, MOST_PEOPLE);
            System.arraycopy(other.eases, 0, eases, 0, MOST_PEOPLE);
            System.arraycopy(other.here, 0, here, 0, MOST_PEOPLE);
            people = other.people;
            on = other.on;
            year = other.year;
            rule = other.rule;
        }

        boolean has(int one) {
            return one >= 0 && one < people && one < MOST_PEOPLE;
        }

        boolean isHere(int one) {
            return has(one) && here[one] != 0;
        }

        boolean knows(int what, int of) {
            if (what == LOAD) {
                return of >= 0 && of < FLOORS;
            }
            return what == LIES_ON || what == YEAR || has(of);
        }

        int value(int what, int of) {
            if (!knows(what, of)) {
                return BAD;
            }
            switch (what) {
                case LOAD: return loads[of];
                case LIES_ON: return on;
                case YEAR: return year;
                case NUMBER: return numbers[of];
                case AGE: return ages[of];
                case EASE: return eases[of];
                case HERE: return here[of];
                case KIND: return kinds[of];
                default: return BAD;
            }
        }

        void put(int what, int of, int v) {
            if (!knows(what, of)) {
                return;
            }
            switch (what) {
                case LOAD: loads[of] = v; break;
                case LIES_ON: on = v; break;
                case YEAR: year = v; break;
                case NUMBER: numbers[of] = v; break;
                case AGE: ages[of] = v; break;
                case EASE: eases[of] = v; break;
                case HERE: here[of] = v; break;
                case KIND: kinds[of] = v; break;
                default: break;
            }
        }

        int comes(int kind, int number, int age) {
            if (kind < 0 || kind >= KINDS || number < 0 || number > MOST_NUMBER || age < 0 || age > MOST_AGE) {
                return BAD;
            }
            int one = people;
            if (one < 0 || one >= MOST_PEOPLE) {
                return FULL;
            }
            kinds[one] = kind;
            numbers[one] = number;
            ages[one] = age;
            eases[one] = 0;
            here[one] = 1;
            people = one + 1;
            return one;
        }

        int hereCount() {
            int many = 0;
            for (int i = 0; i < MOST_PEOPLE; i++) {
                many += here[i];
            }
            return many;
        }

        int hereBits() {
            int bits = 0;
            for (int i = 0; i < MOST_PEOPLE; i++) {
                bits |= here[i] << i;
            }
            return bits;
        }

        int ruleNumber() {
            return rule == null ? NONE : rule.number;
        }

        int loadBelow() {
            return on >= 0 && on < FLOORS ? loads[on] : 0;
        }

        /** In parts of WHOLE. */
        int felt(int one) {
            if (!has(one)) {
                return 0;
            }
            int kind = kinds[one];
            if ((kind == CHILD || kind == KNITTER) && ages[one] < GROWN) {
                return 0;
            }
            int share = kind == ENGINEER ? 1 : numbers[one] + 1;
            if (share < 1) {
                return 0;
            }
            int v = said(FEELS, one) * (WHOLE / share);
            switch (kind) {
                case KING: return 2 * v;
                case QUEEN: return Math.max(0, 2 * v - eases[one] * WHOLE);
                case CHILD: return v / 2;
                case KNITTER: return v / 6;
                default: return v;
            }
        }

        /** In parts of WHOLE. */
        int weighs() {
            int sum = 0;
            for (int i = 0; i < MOST_PEOPLE; i++) {
                if (here[i] != 0) {
                    sum += felt(i);
                }
            }
            return sum;
        }

        int strength(int one) {
            if (!has(one)) {
                return 0;
            }
            int v = said(STRONG, one);
            switch (kinds[one]) {
                case KING: return v + numbers[one];
                case QUEEN: return (v + numbers[one]) * (eases[one] >= QUEENLY_EASE ? 2 : 1);
                case CHILD: return v / 10;
                case KNITTER: return v / 10 + eases[one];
                case ENGINEER: return v + loadBelow();
                default: return v;
            }
        }

        int easing(int one) {
            if (!has(one)) {
                return 0;
            }
            switch (kinds[one]) {
                case KING: return 0;
                case QUEEN: return numbers[one];
                case CHILD: return said(EASES, one) + 1;
                case KNITTER: return 2 * (said(EASES, one) + 1);
                case ENGINEER: return (year & 1) == 0 ? said(EASES, one) : 0;
                default: return said(EASES, one);
            }
        }

        boolean canLift(int one, int weight) {
            return isHere(one) && strength(one) * WHOLE >= weight;
        }

        /** A year: all is told before anything becomes otherwise. */
        void pass() {
            int weight = 0;
            for (int i = 0; i < MOST_PEOPLE; i++) {
                gains[i] = 0;
                if (here[i] != 0) {
                    weight += felt(i);
                    gains[i] = easing(i);
                }
            }
            if (on >= 0 && on < FLOORS && weight > loads[on] * WHOLE) {
                on++;
            }
            for (int i = 0; i < MOST_PEOPLE; i++) {
                eases[i] = Math.min(MOST_EASE, eases[i] + gains[i]);
                ages[i] = Math.min(MOST_AGE, ages[i] + 1);
            }
            year++;
        }

        void passAll(int n) {
            for (int i = 0; i < n; i++) {
                pass();
            }
        }

        /** The years pass, till what the sword lies on is otherwise than told. */
        int firstOtherwise(Row row) {
            for (int i = 0; i < row.size; i++) {
                pass();
                if (on != row.item(i)) {
                    return i;
                }
            }
            return NONE;
        }

        /** What a part of the rule tells of one, within its bounds. */
        private int said(int part, int one) {
            Rule r = rule;
            if (r == null) {
                return 0;
            }
            int to = Math.min(r.endOf(part), r.code.length);
            int top = 0;
            for (int i = Math.max(0, r.startOf(part)); i < to; i++) {
                int c = r.code[i];
                if (c > DO_NEGATE) {
                    if (top >= 0 && top < STACK) {
                        stack[top] = c >= 0 ? c : named(c, one);
                        top++;
                    }
                } else if (c > DO_OR) {
                    if (top >= 1 && top <= STACK) {
                        stack[top - 1] = c != DO_NOT ? -stack[top - 1] : stack[top - 1] == 0 ? 1 : 0;
                    }
                } else if (top >= 2 && top <= STACK) {
                    top--;
                    stack[top - 1] = joined(c, stack[top - 1], stack[top]);
                }
            }
            return Math.max(0, Math.min(MOST_TOLD, stack[0]));
        }

        private int named(int name, int one) {
            if (one < 0 || one >= MOST_PEOPLE) {
                return 0;
            }
            switch (name) {
                case NAME_AGE: return ages[one];
                case NAME_NUMBER: return numbers[one];
                case NAME_FLOOR: return on;
                case NAME_YEAR: return year;
                case NAME_EASE: return eases[one];
                default: break;
            }
            int others = -here[one];
            for (int i = 0; i < MOST_PEOPLE; i++) {
                others += here[i];
            }
            return others;
        }

        private static int joined(int deed, int a, int b) {
            switch (deed) {
                case DO_OR: return a != 0 || b != 0 ? 1 : 0;
                case DO_AND: return a != 0 && b != 0 ? 1 : 0;
                case DO_LESS: return a < b ? 1 : 0;
                case DO_SAME: return a == b ? 1 : 0;
                case DO_ADD: return a + b;
                case DO_TAKE: return a - b;
                default: return a * b;
            }
        }
    }

    /** A text as it was read: a code for a stack, its three parts one behind the other. */
    private static final class Rule {
        private final int number;
        private final int[] code;
        private final int strongAt;
        private final int easesAt;

        Rule(int number, int[] code, int strongAt, int easesAt) {
            this.number = number;
            this.code = code;
            this.strongAt = strongAt;
            this.easesAt = easesAt;
        }

        int startOf(int part) {
            return part == FEELS ? 0 : part == STRONG ? strongAt : easesAt;
        }

        int endOf(int part) {
            return part == FEELS ? strongAt : part == STRONG ? easesAt : code.length;
        }
    }

    /** The tape, and what reads a text from it. */
    private static final class Reader {
        private final int[] tape = new int[MOST_TAPE];
        private int size;
        private int fault;
        // The token that is looked at, its first byte, the first one behind it, and what a number or a name tells.
        private int token;
        private int start;
        private int end;
        private int meaning;
        private final int[] code = new int[MOST_TAPE];
        private int used;
        private int strongAt;
        private int easesAt;

        boolean add(int letter) {
            if (size < 0 || size >= MOST_TAPE) {
                return false;
            }
            tape[size] = letter;
            size++;
            return true;
        }

        /** Reads and empties the tape: the place of its fault, or NONE. */
        int readTape() {
            fault = NONE;
            end = 0;
            used = 0;
            advance();
            readPart(KEY_FEELS);
            strongAt = used;
            readPart(KEY_STRONG);
            easesAt = used;
            readPart(KEY_EASES);
            if (token != ENDED) {
                fail();
            }
            size = 0;
            return fault;
        }

        Rule ruleRead(int number) {
            return new Rule(number, Arrays.copyOf(code, Math.max(0, Math.min(used, code.length))), strongAt, easesAt);
        }

        private void readPart(int key) {
            expect(key);
            readOr(0);
            expect(';');
        }

        /** From the first fault on, no token is any that could stand anywhere. */
        private void fail() {
            if (fault == NONE) {
                fault = start;
            }
            token = STOPPED;
        }

        private void expect(int wanted) {
            if (token == wanted) {
                advance();
            } else {
                fail();
            }
        }

        private void readOr(int open) {
            readAnd(open);
            for (int i = 0; i < MOST_TAPE && token == KEY_OR; i++) {
                advance();
                readAnd(open);
                emit(DO_OR);
            }
        }

        private void readAnd(int open) {
            readNot(open);
            for (int i = 0; i < MOST_TAPE && token == KEY_AND; i++) {
                advance();
                readNot(open);
                emit(DO_AND);
            }
        }

        private void readNot(int open) {
            if (token == KEY_NOT) {
                if (open >= MOST_OPEN) {
                    fail();
                    return;
                }
                advance();
                readNot(open + 1);
                emit(DO_NOT);
                return;
            }
            readSum(open);
            if (token == '<' || token == '=') {
                int deed = token == '<' ? DO_LESS : DO_SAME;
                advance();
                readSum(open);
                emit(deed);
            }
        }

        private void readSum(int open) {
            readTerm(open);
            for (int i = 0; i < MOST_TAPE && (token == '+' || token == '-'); i++) {
                int deed = token == '+' ? DO_ADD : DO_TAKE;
                advance();
                readTerm(open);
                emit(deed);
            }
        }

        private void readTerm(int open) {
            readOne(open);
            for (int i = 0; i < MOST_TAPE && token == '*'; i++) {
                advance();
                readOne(open);
                emit(DO_TIMES);
            }
        }

        private void readOne(int open) {
            if (token == DIGITS || token == NAME) {
                emit(meaning);
                advance();
            } else if (open >= MOST_OPEN) {
                fail();
            } else if (token == '-') {
                advance();
                readOne(open + 1);
                emit(DO_NEGATE);
            } else if (token == '(') {
                advance();
                readOr(open + 1);
                if (token == ')') {
                    advance();
                } else {
                    fail();
                }
            } else {
                fail();
            }
        }

        private void emit(int c) {
            if (used >= 0 && used < MOST_TAPE) {
                code[used] = c;
                used++;
            }
        }

        private int byteAt(int place) {
            return place >= 0 && place < size && place < MOST_TAPE ? tape[place] : NONE;
        }

        private void advance() {
            while (end < size && (byteAt(end) == ' ' || byteAt(end) == '\n')) {
                end++;
            }
            start = end;
            int first = byteAt(start);
            if (first == NONE) {
                token = ENDED;
            } else if (isLetter(first)) {
                takeWord();
            } else if (isDigit(first)) {
                takeDigits();
            } else if (isSign(first)) {
                token = first;
                end++;
            } else {
                fail();
            }
        }

        private void takeWord() {
            while (end < size && isLetter(byteAt(end))) {
                end++;
            }
            token = spells("feels") ? KEY_FEELS : spells("strong") ? KEY_STRONG : spells("eases") ? KEY_EASES
                : spells("or") ? KEY_OR : spells("and") ? KEY_AND : spells("not") ? KEY_NOT : NAME;
            if (token != NAME) {
                return;
            }
            meaning = spells("age") ? NAME_AGE : spells("number") ? NAME_NUMBER : spells("floor") ? NAME_FLOOR
                : spells("year") ? NAME_YEAR : spells("ease") ? NAME_EASE : spells("others") ? NAME_OTHERS : 0;
            if (meaning == 0) {
                fail();
            }
        }

        private void takeDigits() {
            meaning = 0;
            while (end < size && isDigit(byteAt(end))) {
                meaning = meaning * 10 + byteAt(end) - '0';
                end++;
            }
            token = DIGITS;
            if (end - start > MOST_DIGITS) {
                fail();
            }
        }

        private boolean spells(String word) {
            if (start < 0 || end > MOST_TAPE || end - start != word.length()) {
                return false;
            }
            for (int i = 0; i < word.length(); i++) {
                if (tape[start + i] != word.charAt(i)) {
                    return false;
                }
            }
            return true;
        }

        private static boolean isLetter(int c) {
            return c >= 'a' && c <= 'z';
        }

        private static boolean isDigit(int c) {
            return c >= '0' && c <= '9';
        }

        private static boolean isSign(int c) {
            return c == '(' || c == ')' || c == ';' || c == '+' || c == '-' || c == '*' || c == '<' || c == '=';
        }
    }

    /** A sheet: the row is made once, and its sort tells whether it is missing. */
    private static final class Row {
        private int sort = NONE;
        private int size;
        private final int[] items = new int[ROW];

        boolean isMissing() {
            return sort == NONE;
        }

        void vanish() {
            sort = NONE;
            size = 0;
        }

        void become(int newSort, int n) {
            sort = newSort;
            size = Math.max(0, Math.min(n, ROW));
            Arrays.fill(items, 0);
        }

        boolean holds(int from, int n) {
            return from >= 0 && n >= 0 && from <= size && n <= size - from;
        }

        int item(int i) {
            return holds(i, 1) && i < ROW ? items[i] : 0;
        }

        void put(int i, int v) {
            if (holds(i, 1) && i < ROW) {
                items[i] = sort == BYTES ? (byte) v : sort == SHORTS ? (short) v : v;
            }
        }
    }
}
