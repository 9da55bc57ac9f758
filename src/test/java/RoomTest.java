import java.lang.management.ManagementFactory;

/** All calls of a run live in one room: what the dearest calls make is counted in bytes. */
public final class RoomTest {
    private static final Due due = new Due("RoomTest");
    private static int sink;

    public static void main(String[] args) {
        due.promise("room");
        measure();
        long[] made = measure();
        due.holds("a new object makes at most 12000 bytes, not " + made[0], made[0] <= 12000);
        due.holds("400 calls that think make at most 1000 bytes, not " + made[1], made[1] <= 1000);
        due.holds("a text makes at most 1600 bytes, not " + made[2], made[2] <= 1600);
        due.end();
    }

    private static long allocated() {
        return ((com.sun.management.ThreadMXBean) ManagementFactory.getThreadMXBean())
            .getThreadAllocatedBytes(Thread.currentThread().getId());
    }

    private static long[] measure() {
        long begin = allocated();
        NineSail x = new NineSail();
        long made = allocated();
        x.deal(9);
        x.sheet(0, 1, 24);
        Tapes.text(x, "pull w*5+(h>3)*20-s");
        x.keep();
        long think = allocated();
        for (int i = 0; i < 40; i++) {
            sink += x.home() + x.bestLaw(60, 0) + x.turned(40, 0) + x.cutOff(60) + x.wishes(60, 0)
                + x.whose(0, 60, 0) + x.behind(100, 0) + x.check(30) + x.hours(100) + x.keep();
        }
        long thought = allocated();
        String text = "fee w" + "+1".repeat(45);
        Tapes.feed(x, text);
        long told = allocated();
        sink += x.text();
        return new long[] {made - begin, thought - think, allocated() - told};
    }
}
