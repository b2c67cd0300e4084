import java.lang.management.ManagementFactory;

/** What is made, is made once: a long run stays far below the room that it is given. */
public final class RoomTest {
    private static final int ROOM_OF_AN_OBJECT = 400_000;

    public static void main(String[] args) {
        com.sun.management.ThreadMXBean threads = (com.sun.management.ThreadMXBean) ManagementFactory.getThreadMXBean();
        if (!threads.isThreadAllocatedMemorySupported() || !threads.isThreadAllocatedMemoryEnabled()) {
            System.out.println("RoomTest: this machine does not count");
            return;
        }
        int answers = run(new SeaWatches());
        long id = Thread.currentThread().getId();
        long before = threads.getThreadAllocatedBytes(id);
        answers += run(new SeaWatches());
        long used = threads.getThreadAllocatedBytes(id) - before;
        System.out.println("RoomTest: " + used + " bytes, " + answers);
        if (used > ROOM_OF_AN_OBJECT) {
            System.exit(1);
        }
    }

    /** All that makes things or works on many of them, again and again. */
    private static int run(SeaWatches x) {
        int answers = 0;
        for (int i = 0; i < 40; i++) {
            for (int place = 0; place < 16; place++) {
                answers += x.put(place, place % 2, 0);
            }
            answers += x.days(5);
            for (int day = x.count(1) - 4; day <= x.count(1); day++) {
                for (int place = 0; place < 3; place++) {
                    answers += x.compare(place, day, 3 * day + place, 0);
                }
                answers += x.warmth(day, day % 50);
            }
            answers += x.feed(3, 's' | 'u' << 8 | 'm' << 16) + x.rule(0) + x.feed(1, '1') + x.rule(1);
            answers += x.order(0, i, i + 60) + x.foretold(0, i, i + 60, 1, 1) + x.jump(1, i, i + 60, 0);
            answers += x.sail(0, 0, 1, 2) + x.days(1) + x.sight(0, x.count(1), 1, 2, 3) + x.told(0, 0, 2);
            answers += x.back(0, 1, 2, 3);
            for (int j = 1; j <= 9; j++) {
                answers += x.doubt(j);
            }
            answers += x.deal(1, 2, 3);
            for (int place = 0; place < 16; place++) {
                answers += x.take(place);
            }
        }
        return answers;
    }
}
