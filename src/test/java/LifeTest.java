import com.sun.management.ThreadMXBean;
import java.lang.management.ManagementFactory;
import java.util.Random;

/**
 * An object's whole life of 512 calls: its memory is its own, the same calls always give the same
 * answers, and what it makes is little, however dear its calls are.
 */
public final class LifeTest {
    private static final int NONE = BargeBourse.NONE;
    private static final int LIFE = 512;
    /** A room of 7.3 million elements for all objects of a run; one of them takes far less than that. */
    private static final long MOST_BYTES = 40_000;
    private static final Check CHECK = new Check("LifeTest");

    public static void main(String[] args) {
        sameCallsSameAnswers();
        memoryIsItsOwn();
        newAmongOld();
        theLastCallAnswers();
        littleIsMade();
        CHECK.end();
    }

    /** The n-th call of a run, always the same for the same run. */
    private static long call(BargeBourse x, Random r, int n) {
        if (n < 2) {
            return n == 0 ? x.feed(0x63333b70, 0x313b7533, 0x303b6631, 0x3b643920, 0) : x.law(14);
        }
        if (n < 50) {
            return make(x, r, n);
        }
        int s = r.nextInt(16);
        int t = r.nextInt(8);
        int c = r.nextInt(60);
        int i = r.nextInt(10);
        switch (r.nextInt(14)) {
            case 0: return x.sign(s, t);
            case 1: return x.leave(s) ? 1 : 0;
            case 2: return x.wants(s, i * i, 1 << r.nextInt(8)) ? 1 : 0;
            case 3: return x.depth(r.nextInt(12), 20 + r.nextInt(100)) ? 1 : 0;
            case 4: return x.town(t, 1 + r.nextInt(4)) ? 1 : 0;
            case 5: return x.cargo(t, r.nextInt(8), 1 + r.nextInt(300), i % 3, r.nextInt(3000));
            case 6: return x.step(1 + i);
            case 7: return x.told(c, i % 5);
            case 8: return x.can(s, c);
            case 9: return x.way(s, c, i % 4);
            case 10: return x.list(t, i % 3);
            case 11: return x.called(t, i % 5);
            case 12: return x.best(t);
            default: return x.look(s, i);
        }
    }

    private static long make(BargeBourse x, Random r, int n) {
        switch (n % 3) {
            case 0: return x.canal(r.nextInt(8), r.nextInt(8), 1 + r.nextInt(5), 40 + r.nextInt(100), r.nextInt(4));
            case 1: return x.skipper(100 + r.nextInt(500), 1 + r.nextInt(40), 20, 1 + r.nextInt(7));
            default: return x.sign(r.nextInt(16), r.nextInt(8));
        }
    }

    private static long[] answers(int run) {
        BargeBourse x = new BargeBourse();
        Random random = new Random(run);
        long[] answers = new long[LIFE];
        for (int n = 0; n < LIFE; n++) {
            answers[n] = call(x, random, n);
        }
        return answers;
    }

    private static void sameCallsSameAnswers() {
        for (int run = 0; run < 5; run++) {
            long[] first = answers(run);
            long[] again = answers(run);
            for (int n = 0; n < LIFE; n++) {
                CHECK.due("run " + run + " again, call " + n, again[n], first[n]);
            }
        }
    }

    /** Objects that are used by turns answer as each would alone. */
    private static void memoryIsItsOwn() {
        int objects = 8;
        BargeBourse[] xs = new BargeBourse[objects];
        Random[] randoms = new Random[objects];
        long[][] alone = new long[objects][];
        for (int run = 0; run < objects; run++) {
            xs[run] = new BargeBourse();
            randoms[run] = new Random(run);
            alone[run] = answers(run);
        }
        for (int n = 0; n < LIFE; n++) {
            for (int run = 0; run < objects; run++) {
                CHECK.due("run " + run + " by turns, call " + n, call(xs[run], randoms[run], n), alone[run][n]);
            }
        }
    }

    private static void newAmongOld() {
        BargeBourse old = Busy.make();
        old.law(17);
        CHECK.due("a law of the old one", old.clause(0), 5);
        BargeBourse x = new BargeBourse();
        for (int what = 0; what <= 8; what++) {
            CHECK.due("new: count(" + what + ")", x.count(what), 0);
        }
        int[] law = {24, 2, 50, 6, 10};
        for (int what = 0; what < 5; what++) {
            CHECK.due("new: clause(" + what + ")", x.clause(what), law[what]);
        }
        CHECK.due("new: no call", x.called(0, 0), NONE);
        CHECK.due("the old one's law stays", old.clause(0), 5);
    }

    /** All that an object may have, and 200 hours with calls in each of them. */
    private static void fill(BargeBourse x) {
        Check.law(x, "c1;p9;u9999;f0;d9999");
        for (int c = 0; c < 12; c++) {
            x.canal(c % 8, (c + 1 + c / 8) % 8, 1, 500, 1);
        }
        for (int s = 0; s < 16; s++) {
            x.skipper(600, 10, 20, 7);
            x.sign(s, 0);
        }
        for (int c = 0; c < 60; c++) {
            x.cargo(c < 30 ? 0 : 4, c < 30 ? 4 : 0, 600, c % 3, 1000 * c);
        }
    }

    private static void theLastCallAnswers() {
        BargeBourse x = new BargeBourse();
        for (int call = 1; call < LIFE; call++) {
            CHECK.due("call " + call, x.step(200), 200 * call);
        }
        CHECK.due("call 512", x.step(200), 200 * LIFE);
        BargeBourse y = new BargeBourse();
        for (int call = 1; call < LIFE; call++) {
            y.feed(0x63372020, 0, 0, 0, 0);
        }
        CHECK.due("call 512", y.law(2), 0);
    }

    private static void littleIsMade() {
        ThreadMXBean meter = (ThreadMXBean) ManagementFactory.getThreadMXBean();
        long before = meter.getCurrentThreadAllocatedBytes();
        BargeBourse x = new BargeBourse();
        fill(x);
        for (int call = 0; call < 90; call++) {
            x.wants(call % 16, 1000, 255);
            x.step(100);
            x.wants(call % 16, 0, 0);
            x.step(100);
        }
        for (int call = 0; call < 14; call++) {
            x.best(call % 8);
            x.can(call, call);
            x.way(call, call, 0);
        }
        long made = meter.getCurrentThreadAllocatedBytes() - before;
        CHECK.due("all are brought", x.count(6), 60);
        CHECK.due(made + " bytes made in a whole life, at most " + MOST_BYTES, made <= MOST_BYTES, true);
    }
}
