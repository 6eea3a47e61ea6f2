import com.sun.management.ThreadMXBean;
import java.lang.management.ManagementFactory;

/** All calls of a run live in one room, so calls make no objects: only a new object, and a text that is taken, do. */
public final class RoomTest {
    private static final int CALLS = 16;
    // What the meter itself may make; one array in each call would be far above it.
    private static final long SLACK = 200;
    private static final long OBJECT_BYTES = 16000;

    private RoomTest() { }

    public static void main(String[] args) {
        ThreadMXBean meter = (ThreadMXBean) ManagementFactory.getThreadMXBean();
        long id = Thread.currentThread().getId();
        Due due = new Due("room");
        TillTheyMeet x = new TillTheyMeet();
        for (int name = 0; name < 20; name++) {
            call(x, name, 0);
            meter.getThreadAllocatedBytes(id);
            long before = meter.getThreadAllocatedBytes(id);
            for (int i = 0; i < CALLS; i++) call(x, name, i);
            long made = meter.getThreadAllocatedBytes(id) - before;
            due.is("calls of " + name + " made " + made + " bytes", made <= SLACK ? 1 : 0, 1);
        }
        long before = meter.getThreadAllocatedBytes(id);
        TillTheyMeet y = new TillTheyMeet();
        long made = meter.getThreadAllocatedBytes(id) - before;
        due.is("a new object made " + made + " bytes", made < OBJECT_BYTES ? 1 : 0, 1);
        due.is("a new object", y.count(0), 24);
        due.end();
    }

    private static long call(TillTheyMeet x, int name, int i) {
        switch (name) {
            case 0: return x.run(i % 6);
            case 1: return x.done(0, i);
            case 2: return x.ease(i % 2, 0);
            case 3: return x.men(i % 2, 0);
            case 4: return x.quarrel(i % 3);
            case 5: return x.sheet(i % 4, i % 3, 40);
            case 6: return x.slowed(0, i % 4);
            case 7: return x.cell(i % 4, i, i);
            case 8: return x.copy(0, 0, 0, 1, i);
            case 9: return x.grounds(0, 0, 0, i);
            case 10: return x.soonest(0);
            case 11: return x.cheapest();
            case 12: return x.chance(i, 30, 20, 0);
            case 13: return x.image();
            case 14: return x.back();
            case 15: return x.day();
            case 16: return x.feed(i);
            case 17: return x.bet(i, 3, 4);
            case 18: return x.gang(0, i % 6, 3);
            default: return x.well(0) + x.told(0, 7) + x.yard(i, 3) + x.taken(0, 0) + x.bore(i, 1) + x.text();
        }
    }
}
