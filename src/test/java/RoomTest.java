import java.lang.management.ManagementFactory;
import java.util.function.IntConsumer;

/** What 512 of the dearest calls make in all stays far below the one room, and each of them ends in time. */
public final class RoomTest {
    private static final Check CHECK = new Check("RoomTest");
    private static final com.sun.management.ThreadMXBean THREADS =
        (com.sun.management.ThreadMXBean) ManagementFactory.getThreadMXBean();

    public static void main(String[] args) {
        String text = FullText.text();
        WellVillages x = Check.over(text);
        x.run(9);
        x.tell(199, 11, 9999);
        // a call alone is dear when it is the first: it makes what later calls use again
        x.hidden(1, 0);
        x.test(0, 1, 0, 3);
        calls("blame", 20, i -> x.blame(i % 6, 1, 200));
        calls("shut", 20, i -> x.shut(i % 6, 200));
        calls("most", 20, i -> x.most(i % 6, 200));
        calls("fairest", 20, i -> x.fairest(200));
        calls("share", 20, i -> x.share(200));
        calls("test", 20, i -> x.test(0, 1, 0, 199));
        calls("pairs", 20, i -> x.pairs(0, 1, 0, 0));
        calls("rainSpan", 20, i -> x.rainSpan(i % 14, 1));
        calls("bridges", 512, i -> x.bridges());
        calls("run", 512, i -> x.run(400));
        calls("hold", 512, i -> x.restore(x.hold(i % 3) ? i % 3 : 0));
        calls("feed", 512, i -> x.feed(i, i, i, i, i));
        calls("read", 200, i -> {
            Check.put(x, "rain");
            x.read();
        });
        calls("hidden that finds none", 3, i -> {
            x.forget();
            x.tell(199, i, 9999);
            x.hidden(1, 0);
        });
        // 600,000 objects and 7.3 million fields and elements would be some 16 MB at the least
        long made = allocated();
        for (int i = 0; i < 100; i++) {
            new WellVillages().run(1);
        }
        long each = (allocated() - made) / 100;
        System.out.println("a new object makes " + each + " bytes");
        CHECK.due("bytes of a new object below 30000", each < 30000, true);
        CHECK.end();
    }

    private static long allocated() {
        return THREADS.getThreadAllocatedBytes(Thread.currentThread().getId());
    }

    /** Between two looks nothing but the calls makes objects, and those are to make none but the test's own few. */
    private static void calls(String name, int n, IntConsumer call) {
        call.accept(0);
        long start = System.nanoTime();
        long made = allocated();
        for (int i = 0; i < n; i++) {
            call.accept(i);
        }
        made = allocated() - made;
        long seconds = (System.nanoTime() - start) / 1000000000L;
        CHECK.due(name + " makes few bytes: " + made / n + " a call", made / n < 1000, true);
        CHECK.due(name + " takes below a minute: " + seconds + " s", seconds < 60, true);
    }
}
