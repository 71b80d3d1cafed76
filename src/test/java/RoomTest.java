import java.lang.management.ManagementFactory;

/** All calls of a run share one room: no call may make anything, however dear it is. */
public final class RoomTest {
    private static final int ROUNDS = 200;
    /** Far below what one small object a round would take, and room enough for what the machine does beside us. */
    private static final long SLACK = 2048;

    private static long sum = 0;

    private static SaltPlant greatest() {
        SaltPlant x = new SaltPlant();
        for (int stage = 0; stage < 3; stage++) {
            x.stage(stage, 4);
        }
        x.length(6);
        x.feed(20000, 3000, 900);
        x.rule(3, 7);
        for (int i = 0; i < 72; i++) {
            x.fresh(100 * (i / 24) + 10 * (i / 6 % 4) + i % 6, i * 7 % 4);
        }
        x.days(3);
        x.sheet(0, 24);
        x.sheet(1, 24);
        return x;
    }

    private static void everyCall(SaltPlant x) {
        sum += x.stage(1, 4) + x.length(6) + x.fresh(0, 1) + x.told(0, 2) + x.isOf(0, 1) + x.feed(20000, 3000, 900);
        sum += x.change(0, 1) + x.flow(235, 4) + x.sweet(2) + x.brine(1) + x.power() + x.failure() + x.rule(0, 0);
        sum += x.days(30) + x.foul(2) + x.swap() + x.array(500, 60000) + x.hour(3, 1, 5) + x.lay(0, 0) + x.plan(0);
        sum += x.runs(0) + x.tank(0, 11) + x.joint(23, 0, 0) + x.sheet(0, 24) + x.mark(0, 0, 1);
        sum += x.copy(0, 0, 1, 0, 24) + x.count(1);
        sum += x.stage(9, 9) + x.mark(9, 9, 9) + x.copy(0, 0, 1, 0, -1) + x.sheet(0, -1);
    }

    public static void main(String[] args) {
        com.sun.management.ThreadMXBean beans = (com.sun.management.ThreadMXBean) ManagementFactory.getThreadMXBean();
        long self = Thread.currentThread().getId();
        everyCall(greatest());
        beans.getThreadAllocatedBytes(self);
        SaltPlant x = greatest();
        long before = beans.getThreadAllocatedBytes(self);
        for (int i = 0; i < ROUNDS; i++) {
            everyCall(x);
        }
        long made = beans.getThreadAllocatedBytes(self) - before;
        System.out.println(ROUNDS + " rounds of every call took " + made + " bytes of room");
        if (made > SLACK) {
            System.out.println("that is more than " + SLACK);
            System.exit(1);
        }
    }
}
