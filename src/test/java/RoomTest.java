import java.lang.management.ManagementFactory;

/**
 * What an object and its calls make, in bytes: all calls of one run live in one room, so rows are made
 * with the object and only a rule that is told makes anything later.
 */
public final class RoomTest {
    private static final Due DUE = new Due();
    private static final com.sun.management.ThreadMXBean BEAN =
            (com.sun.management.ThreadMXBean) ManagementFactory.getThreadMXBean();
    private static final String VILLAGE = "village 6 1;tool 0 0 3;tool 1 0 5;tool 2 0 1;tool 3 0 1;tool 4 1 1;tool 5 1 9;"
            + "trust 0 1;trust 1 2;trust 2 3;trust 3 4;trust 4 5;trust 5 0;trust 0 3;trust 3 0;trust 1 4;trust 4 1;"
            + "work 0 0 5 9;work 1 0 6 8;work 2 0 7 7;work 3 0 8 6;work 4 1 9 5;work 5 1 9 4;thanks 0 1 9;thanks 1 0 9";
    private static final int FEW = 200;

    private static int kept;

    public static void main(String[] args) {
        if (!BEAN.isThreadAllocatedMemorySupported()) {
            System.out.println("this machine doesn't tell what is made: nothing is measured");
            return;
        }
        BEAN.setThreadAllocatedMemoryEnabled(true);
        // The first turns load classes; the last one is measured.
        long object = 0;
        long asked = 0;
        long acted = 0;
        long told = 0;
        for (int i = 0; i < 30; i++) {
            long start = made();
            LentTools x = new LentTools();
            object = made() - start;
            Due.village(x, VILLAGE);
            Due.rule(x, "lend need + pay + sharp if [not owes > 5 and trusts = 0] or day > 3;lend to + 1");
            asked = ask(x);
            acted = act(x);
            told = tell(x);
        }
        atMost("a new object", object, 40_000);
        atMost("what is asked", asked, FEW);
        atMost("what is done", acted, FEW);
        atMost("texts with a fault, and a village", told, FEW);
        DUE.is("answers were made", kept != 0, true);
        DUE.close();
    }

    private static void atMost(String what, long got, long most) {
        DUE.is(what + " makes " + got + " bytes, at most " + most, got <= most, true);
    }

    private static long made() {
        return BEAN.getThreadAllocatedBytes(Thread.currentThread().getId());
    }

    private static long ask(LentTools x) {
        long start = made();
        for (int i = 0; i < 6; i++) {
            kept += x.chain(0, i, true, 2) + x.chain(0, i, false, 3) + x.match(i) + x.worth(i) + x.owner(i, 1);
            kept += x.breaks(i) + x.rings(i) + x.debt(i) + x.came(i, 1) + x.done(0) + x.safe(i) + x.harvests(10, 60, 0);
            kept += x.tool(i, 6) + x.work(i, 5) + x.house(i, 0, 0) + x.count(i) + x.count(6 + i);
        }
        return made() - start;
    }

    private static long act(LentTools x) {
        long start = made();
        for (int i = 0; i < 40; i++) {
            kept += x.lend(i % 6, (i + 1) % 6) + x.does(i % 6) + x.day() + x.ring() + x.image(i % 5);
            kept += x.giveBack(i % 7) + x.gift(i % 6, i % 5) + x.undo() + x.run(0, 2) + x.back(i % 4) + x.seed(i);
        }
        kept += x.quarrel(0, 1) ? 1 : 0;
        return made() - start;
    }

    private static long tell(LentTools x) {
        long start = made();
        for (int i = 0; i < 20; i++) {
            // "lend 1 if", and "village 2 " with a number behind it that is late enough or too great.
            x.feed(0x6c656e64, 0x20312069, 0x66202020, 0x20202020, 0x20202020);
            kept += x.rule();
            x.feed(0x76696c6c, 0x61676520, 0x32202020, 0x31202020 + (i << 16), 0x20202020);
            kept += x.village();
        }
        return made() - start;
    }
}
