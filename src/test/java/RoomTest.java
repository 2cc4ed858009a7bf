import java.lang.management.ManagementFactory;

/** What one committee and 512 calls make is little: all calls of a run live in one room. */
public final class RoomTest {
    private static final long MOST_BYTES = 400_000;

    private RoomTest() {
    }

    public static void main(String[] args) {
        com.sun.management.ThreadMXBean meter = (com.sun.management.ThreadMXBean) ManagementFactory.getThreadMXBean();
        long id = Thread.currentThread().getId();
        run();
        long before = meter.getThreadAllocatedBytes(id);
        int calls = run();
        long made = meter.getThreadAllocatedBytes(id) - before;
        System.out.println("room: " + made + " bytes for " + calls + " calls");
        if (made > MOST_BYTES || calls != 512) {
            System.exit(1);
        }
    }

    private static int run() {
        VerseCommittee x = new VerseCommittee();
        int calls = 0;
        x.feed(0x61626364, 0, 0, 0, 0);
        x.word(4);
        x.company(255, 1);
        x.scholar(0, true);
        x.centre(9);
        x.feed(0x76302e30, 0x3b76312e, 0x303b7328, 0x763d3029, 0x3b732828);
        x.feed(0x763c3929, 0x290a0a0a, 0, 0, 0);
        calls += x.rules(-1, 0, 3999, 25) == 0 ? 8 : 1000;
        for (int v = 0; v < 40; v++) {
            x.verse(v % 8, 1);
            x.feed(0x04040404, 0x04040404, 0, 0, 0);
            x.source(v, 0, 8);
            x.feed(1 + v % 7, 0, 0, 0, 0);
            x.render(0, v, 10);
            x.close(v);
            x.close(v);
            calls += 7;
        }
        x.option(1, 0);
        calls += x.count(9) == 40 ? 2 : 1000;
        for (; calls < 512; calls++) {
            ask(x, calls);
        }
        return calls;
    }

    private static void ask(VerseCommittee x, int i) {
        switch (i % 9) {
            case 0 -> x.count(10);
            case 1 -> x.unlike(1000, 0);
            case 2 -> x.one();
            case 3 -> x.plan(-1);
            case 4 -> x.breaches(i % 40);
            case 5 -> x.quarrel(i % 40, 5, 0);
            case 6 -> x.changes(i % 40, 0, 0);
            case 7 -> x.printed(0, i % 40, 30);
            default -> x.line(20);
        }
    }
}
