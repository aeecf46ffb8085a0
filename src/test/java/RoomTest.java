import com.sun.management.ThreadMXBean;
import java.lang.management.ManagementFactory;

/** The room that a run takes: an object is made small, and no call makes anything. */
public final class RoomTest {
    private static final int OBJECT_BYTES = 48 * 1024;
    private static final ThreadMXBean BEAN = (ThreadMXBean) ManagementFactory.getThreadMXBean();
    private static final long SELF = Thread.currentThread().getId();

    private static long made() { return BEAN.getThreadAllocatedBytes(SELF); }

    private static int[] numbers(String text) {
        StringBuilder all = new StringBuilder(text);
        while (all.length() % 20 != 0) all.append(' ');
        int[] n = new int[all.length() / 4];
        for (int k = 0; k < all.length(); k++) n[k / 4] = (n[k / 4] << 8) | all.charAt(k);
        return n;
    }
    private static int calls(DeskDays x, int[] n) {
        int sum = 0;
        for (int round = 0; round < 50; round++) {
            for (int k = 0; k < n.length; k += 5) sum += x.feed(n[k], n[k + 1], n[k + 2], n[k + 3], n[k + 4]);
            sum += x.house() + x.seek() + x.fewest() + x.spent() + x.better(2000) + x.both(0, 1) + x.trade(1, 2) + x.free(60) + x.image();
            sum += x.bound(true) + x.worth() + x.judge(0) + x.weeks() + x.never(9) + x.grow(2) + x.over(50, 10, 5) + x.status(0) + x.octet(1);
            for (int d = 0; d < 5; d++) sum += x.seat(d, 1) + x.fit(d, 1) + x.shut(d) + x.draw(d) + x.enough(d, 5) + x.stairs(d) + x.likely(d, 2) + x.day(d, 1);
            for (int p = 0; p < 5; p++) sum += x.alone(p) + x.move(p) + x.person(p, 7) + x.letter(2, p, 0) + x.met(p) + x.should(p) + x.has(p) + x.floor(p, 0);
            sum += (x.end(0) ? 1 : 0) + (x.row() ? 1 : 0) + (x.on() ? 1 : 0) + (x.put(0, 1) ? 1 : 0) + (x.seed(5) ? 1 : 0) + x.fault(0) + x.house();
        }
        return sum;
    }

    public static void main(String[] args) {
        int[] n = numbers("floor a desks 2 noise 1 cost 5;floor b desks 2 noise 0 cost 5;team t;team u;person p team t days 2;person q team t days 2;"
            + "person r team u days 3;person s team u days 1;person v team u days 2;tie p q 3;tie q r 4;tie r s 9;tie s p 2;own p a;meet t;visit mon 3 20;"
            + "turns q 2;worth many*2-(day+1)/3 when [day<3 or not crew=0] and many>1;worth max(0,room-many) when all;");
        calls(new DeskDays(), n);
        long before = made();
        DeskDays x = new DeskDays();
        long object = made() - before;
        before = made();
        int sum = calls(x, n);
        long callsMade = made() - before;
        System.out.println("room: an object takes " + object + " bytes, its calls " + callsMade + " (" + sum + ")");
        // a kilobyte is left to what the machine itself may make while it measures
        if (object > OBJECT_BYTES || callsMade > 1024) System.exit(1);
    }
}
