import com.sun.management.ThreadMXBean;
import java.lang.management.ManagementFactory;

/** What a run makes stays small: an object's rows are made with it, and its calls make nothing but texts. */
public final class RoomTest {
    private static final ThreadMXBean THREADS = (ThreadMXBean) ManagementFactory.getThreadMXBean();
    private static long answers;

    public static void main(String[] args) {
        long id = Thread.currentThread().getId();
        THREADS.getThreadAllocatedBytes(id);
        round(new NobodyCanLiftIt());
        NobodyCanLiftIt x = new NobodyCanLiftIt();
        long before = THREADS.getThreadAllocatedBytes(id);
        for (int i = 0; i < 100; i++) {
            round(x);
        }
        long made = THREADS.getThreadAllocatedBytes(id) - before;
        // Five texts of 160 bytes at most, and what the question itself makes.
        Due.isTrue("calls made " + made + " bytes", made < 5 * 700 + 1000);
        before = THREADS.getThreadAllocatedBytes(id);
        NobodyCanLiftIt[] all = new NobodyCanLiftIt[100];
        for (int i = 0; i < all.length; i++) {
            all[i] = new NobodyCanLiftIt();
        }
        made = (THREADS.getThreadAllocatedBytes(id) - before) / all.length;
        Due.isTrue("an object is made of " + made + " bytes", made < 6000);
        Due.isTrue("answers", answers != 0);
        Due.end();
    }

    private static void round(NobodyCanLiftIt x) {
        String text = "feels 10; strong age; eases 1;";
        for (int i = 0; i < text.length(); i++) {
            answers += x.feed(text.charAt(i));
        }
        answers += x.text() + x.force(1) + x.person(3, 4, 5) + x.set(6, 0, 1) + x.told(0, 8) + x.feels(0, 0);
        answers += x.weight(1) + x.year() + x.lift(0) + x.run(0, 60, 0) + x.heavy(60, 0) + x.when(0, 0);
        answers += x.best(0) + x.best(2) + x.prop(40, 9, 0) + x.sit(40, 0) + x.film(0, 20);
        for (int what = 0; what < 9; what++) {
            answers += x.tells(0, 0, what);
        }
        answers += x.drawn(1, 40) + x.chance(1, 20, 5, 0) + x.image() + x.back() + x.count(1) + x.sheet(1, 0, 40);
        answers += x.cell(1, 0, 1) + x.copy(1, 0, 1, 4, 20) + x.court(1, 0, 0, 5) + x.taken(0, 0);
    }
}
