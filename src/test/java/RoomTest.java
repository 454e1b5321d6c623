import com.sun.management.ThreadMXBean;
import java.lang.management.ManagementFactory;

/** All calls live in one room: an object is small, and its calls make nothing that is kept or thrown away. */
public final class RoomTest {
    private static final String TEXT = "program p,q,r;line p do up a,give q then if b to q by 9 else r by 3;"
            + "line q do down b then to p by 9;line r do down b then to p by 9;want 1,2,0,0 is 9;want 0,1,0,0 is 7";
    private static final int OBJECTS = 200;

    public static void main(String[] args) {
        Check check = new Check("RoomTest");
        if (!(ManagementFactory.getThreadMXBean() instanceof ThreadMXBean)) {
            System.out.println("RoomTest: this machine doesn't count what is made");
            return;
        }
        ThreadMXBean counted = (ThreadMXBean) ManagementFactory.getThreadMXBean();
        long id = Thread.currentThread().getId();
        allCalls(Check.told(TEXT));
        BurntWays[] made = new BurntWays[OBJECTS];
        long before = counted.getThreadAllocatedBytes(id);
        for (int i = 0; i < OBJECTS; i++) {
            made[i] = new BurntWays();
        }
        long each = (counted.getThreadAllocatedBytes(id) - before) / OBJECTS;
        System.out.println("RoomTest: " + each + " bytes an object");
        check.due("an object takes more than 32,000 bytes", each > 32000, false);
        BurntWays x = Check.told(TEXT);
        before = counted.getThreadAllocatedBytes(id);
        for (int i = 0; i < 9; i++) {
            allCalls(x);
        }
        long calls = counted.getThreadAllocatedBytes(id) - before;
        System.out.println("RoomTest: " + calls + " bytes made by calls");
        check.due("calls make more than 1,000 bytes", calls > 1000, false);
        check.end();
    }

    private static void allCalls(BurntWays x) {
        x.start(1, 2, 3, 0);
        x.steps(3);
        x.run();
        x.now(0);
        x.counter(0);
        x.left(0);
        x.burnt();
        x.path(1);
        x.answer(1, 1, 1, 1);
        x.parted(1, 99);
        x.mark();
        for (int k = 3; k >= 0; k--) {
            x.must(k);
            x.unburnt(k);
            x.whole(k);
            x.longest(k);
            x.longestAt(k);
            x.ends(k, 1);
            x.seen(k);
            x.first(k, 1);
            x.most(k, 0);
            x.spare(k, 0);
            x.unfair(1, 2, k);
            x.same(k);
        }
        x.wanted();
        x.come();
        x.even();
        x.degree(0);
        x.trails();
        x.trail(0);
        x.keys();
        x.loop(2, 2);
        x.alike(0, 1);
        x.fold(3);
        x.least(2);
        x.leastLine(2, 0);
        x.line(0, 0);
        x.led(0);
        x.size(1);
        x.back(0);
        x.trouble();
    }
}
