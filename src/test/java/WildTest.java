import java.util.Random;

/** No call throws, whatever its arguments, in whatever state, for many more calls than are promised. */
public final class WildTest {
    private static final int[] ENDS = {Integer.MIN_VALUE, -2, -1, 0, 1, 2, 5, 10, 40, 99, 256, Integer.MAX_VALUE};
    private static final String LETTERS = "feels strong eases or and not age number floor ()-+*<=;;;0123456789";
    private static final Random RANDOM = new Random(7);

    public static void main(String[] args) {
        for (int i = 0; i < 40; i++) {
            NobodyCanLiftIt x = new NobodyCanLiftIt();
            for (int k = 0; k < 2000; k++) {
                call(x, RANDOM.nextInt(28));
            }
            Due.isTrue("still answers", x.count(0) >= 0 && x.weight(1) > 0);
        }
        Due.end();
    }

    private static int any() {
        switch (RANDOM.nextInt(4)) {
            case 0: return ENDS[RANDOM.nextInt(ENDS.length)];
            case 1: return RANDOM.nextInt();
            default: return RANDOM.nextInt(7);
        }
    }

    private static void call(NobodyCanLiftIt x, int which) {
        switch (which) {
            case 0: x.set(any(), any(), any()); break;
            case 1: x.person(any(), any(), any()); break;
            case 2: x.told(any(), any()); break;
            case 3: x.feels(any(), any()); break;
            case 4: x.weight(any()); break;
            case 5: feed(x); break;
            case 6: x.text(); break;
            case 7: x.force(any()); break;
            case 8: x.year(); break;
            case 9: x.lift(any()); break;
            case 10: x.run(any(), any(), any()); break;
            case 11: x.heavy(any(), any()); break;
            case 12: x.when(any(), any()); break;
            case 13: x.best(any()); break;
            case 14: x.prop(any(), any(), any()); break;
            case 15: x.sit(any(), any()); break;
            case 16: x.tells(any(), any(), any()); break;
            case 17: x.film(any(), any()); break;
            case 18: x.drawn(any(), any()); break;
            case 19: x.chance(any(), any(), any(), any()); break;
            case 20: x.image(); break;
            case 21: x.back(); break;
            case 22: x.count(any()); break;
            case 23: x.sheet(any(), any(), any()); break;
            case 24: x.cell(any(), any(), any()); break;
            case 25: x.copy(any(), any(), any(), any(), any()); break;
            case 26: x.court(any(), any(), any(), any()); break;
            default: x.taken(any(), any()); break;
        }
    }

    /** Wild bytes, or a text with one letter that is drawn. */
    private static void feed(NobodyCanLiftIt x) {
        if (RANDOM.nextBoolean()) {
            x.feed(any());
            return;
        }
        StringBuilder s = new StringBuilder("feels - (age or 9); strong not 1 < 2; eases 9999*9999;");
        if (RANDOM.nextBoolean()) {
            s.setCharAt(RANDOM.nextInt(s.length()), LETTERS.charAt(RANDOM.nextInt(LETTERS.length())));
        }
        x.text();
        Due.feed(x, s.toString());
        x.text();
    }
}
