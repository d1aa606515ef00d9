import com.sun.management.ThreadMXBean;
import java.lang.management.ManagementFactory;

/**
 * All calls of a run live in one room that is never given back: but for the first save in each slot
 * a call may make no object at all.
 */
public final class RoomTest {
    private static final long MOST_FOR_AN_OBJECT = 64 * 1024;
    private static int kept = 0;

    public static void main(String[] args) {
        if (!(ManagementFactory.getThreadMXBean() instanceof ThreadMXBean threads)) {
            System.out.println("this machine cannot count what is made");
            return;
        }
        // What the machine itself makes when a class is used first does not count.
        dearCalls(new CodedCaching());
        threads.getCurrentThreadAllocatedBytes();
        long before = threads.getCurrentThreadAllocatedBytes();
        CodedCaching object = new CodedCaching();
        object.save(0);
        object.save(1);
        long made = threads.getCurrentThreadAllocatedBytes();
        dearCalls(object);
        long after = threads.getCurrentThreadAllocatedBytes();
        if (made - before > MOST_FOR_AN_OBJECT) {
            Run.complain("a new object with two slots takes " + (made - before) + " bytes");
        }
        if (after - made > 1024) {
            Run.complain("the calls took " + (after - made) + " bytes, " + kept);
        }
        Run.end();
    }

    private static void dearCalls(CodedCaching x) {
        keep(x.reset(5, 6, 30) + x.storeRandom(7) + x.storeSubsets(2));
        for (int u = 0; u < 6; u++) {
            keep(x.want(u, u % 5));
        }
        for (int round = 0; round < 30; round++) {
            keep(x.schedule(round % 4) + x.send(round % 8) + x.resend(0) + x.bound() + x.rate() + x.sharedRate());
            keep(x.digest() + x.proof(0, round) + x.decode(1, round) + x.need(2) + x.user(3, 7) + x.formula(2));
            keep(x.save(round % 2) + x.restore(round % 2) + x.plan(0, round, 3) + x.type("w00;".charAt(round % 4)));
            keep(x.fault() + x.run() + x.count(7) + x.setContent(0, 0) + x.store(0, round) + x.drop(0, round) + x.idle(1));
        }
    }

    private static void keep(long answer) {
        kept += (int) answer;
    }
}
