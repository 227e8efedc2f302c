import java.lang.management.ManagementFactory;

/** No call may take room: what is made is made with the object. */
public final class RoomTest {
    private static final com.sun.management.ThreadMXBean BEAN =
        (com.sun.management.ThreadMXBean) ManagementFactory.getThreadMXBean();

    private static long taken() {
        return BEAN.getCurrentThreadAllocatedBytes();
    }

    /** The dearest calls, and one of every other kind. */
    private static long calls(PastTheRim x) {
        long sum = 0;
        for (int i = 0; i < 6; i++) sum += x.pusher(10 * (i + 1) + 3);
        sum += x.feed(0x292869292869L, 6) + x.text(0);
        sum += x.feed(0x2b68L, 2) + x.feed(0x6eL, 1) + x.text(1);
        sum += x.sheet(0, 8, 3) + x.sheet(1, 8, 24) + x.put(0, 0, 5) + x.move(0, 0, 1, 0, 2);
        sum += x.image() + x.tell(4) + x.check() + x.pusherIs(0, 2) + x.become(0, 14) + x.as(0, 1);
        for (int i = 0; i < 4; i++) sum += x.plan(4, i) + x.odds(3, 1) + x.fits(0, -1) + x.crew(i, 60, 1);
        for (int i = 0; i < 6; i++) sum += x.voice(i, 2, i) + x.voice(i, 3, i) + x.body(i);
        sum += x.deepest(1, 60) + x.strokes(1, 60) + x.steady(1) + x.least() + x.levels(0) + x.judge(1);
        sum += x.swing(3) + x.swings(9) + x.shovel(2) + x.seed(3) + x.now(0) + x.would(3, 0);
        sum += x.law(0, 1, 2, 3) + x.untell(0) + x.restore() + x.count(0) + x.told(1) + x.car(1, 5);
        sum += x.carIs(1) + x.park(20);
        for (int i = 0; i < 6; i++) sum += x.leaves();
        return sum;
    }

    public static void main(String[] args) {
        calls(new PastTheRim());
        PastTheRim x = new PastTheRim();
        long before = taken();
        long none = taken() - before;
        before = taken();
        calls(x);
        long byCalls = taken() - before - none;
        before = taken();
        new PastTheRim();
        long byOne = taken() - before - none;
        System.out.println("RoomTest: calls took " + byCalls + " bytes, an object " + byOne);
        if (byCalls > 64 || byOne > 16384) System.exit(1);
    }
}
