import java.lang.management.ManagementFactory;
import java.util.Random;

/** No call throws, for any numbers in any state; and a run of calls makes next to nothing. */
public final class RoomTest {
    private static final Check C = new Check("RoomTest");
    private static final int[] ODD = {0, 1, -1, 2, 3, 4, 12, 13, 60, 61, 200, 201, 300, 4094, 4095, Integer.MAX_VALUE, Integer.MIN_VALUE};
    private static final String LAND = "law enter 4 leave 20;law enter 9 leave 10;sort share 99 gift 99 wish 240 spread 60;sort share 1 gift 0 wish 0;"
        + "wage school times gift plus old times forced minus month times 7 over 2;leak 1 by 99;leak 12 by 1;noise 999;";

    public static void main(String[] args) {
        for (int run = 0; run < 400; run++) {
            anyNumbers(new Random(run));
        }
        room();
        C.close();
    }

    private static int any(Random r) {
        switch (r.nextInt(3)) {
            case 0: return ODD[r.nextInt(ODD.length)];
            case 1: return r.nextInt(20);
            default: return r.nextInt();
        }
    }

    private static void anyNumbers(Random r) {
        MonthPush x = r.nextInt(4) == 0 ? new MonthPush() : Check.with(LAND);
        int before = 0;
        try {
            for (before = 0; before < 400; before++) {
                call(x, r.nextInt(43), any(r), any(r), any(r), any(r), any(r));
            }
        } catch (RuntimeException e) {
            System.out.println("threw " + e);
        }
        C.due("calls without a throw", before, 400);
    }

    private static long call(MonthPush x, int which, int a, int b, int c, int d, int e) {
        switch (which) {
            case 0: return x.feed(a, b, c, d, e);
            case 1: return x.end(a);
            case 2: return x.land();
            case 3: return x.fault(a);
            case 4: return x.forced(a, b);
            case 5: return x.old(a, b);
            case 6: return x.wage(a, b, c, d);
            case 7: return x.draw(a, b);
            case 8: return x.sheet(a, b, c, d);
            case 9: return x.told(a, b);
            case 10: return x.would(a, b);
            case 11: return x.worth(a);
            case 12: return x.month(a, b);
            case 13: return x.plain();
            case 14: return x.by(a);
            case 15: return x.many();
            case 16: return x.groups();
            case 17: return x.moves(a);
            case 18: return x.strong(a);
            case 19: return x.strongest();
            case 20: return x.span(a, b, c);
            case 21: return x.usual(a, b, c);
            default: return callMore(x, which, a, b, c, d, e);
        }
    }

    private static long callMore(MonthPush x, int which, int a, int b, int c, int d, int e) {
        switch (which) {
            case 22: return x.kept(a, b, c);
            case 23: return x.hats(a, b, c, d);
            case 24: return x.leak(a);
            case 25: return x.leaked(a, b);
            case 26: return x.homes(a);
            case 27: return x.whom(a);
            case 28: return x.truth(a > 0);
            case 29: return x.leans(a, b);
            case 30: return x.least(a);
            case 31: return x.beside(a, b);
            case 32: return x.needs(a, b);
            case 33: return x.worlds(a, b, c, d, e);
            case 34: return x.only(a);
            case 35: return x.judge(a);
            case 36: return x.sheets(a);
            case 37: return x.count(a);
            case 38: return x.keep(a);
            case 39: return x.back(a);
            case 40: return x.row(a, b, c);
            case 41: return x.write(a, b, (long) c << 32 | d);
            default: return x.paste(a, b, c, d, e);
        }
    }

    private static long made() {
        return ((com.sun.management.ThreadMXBean) ManagementFactory.getThreadMXBean()).getCurrentThreadAllocatedBytes();
    }

    /** The dearest calls, a hundred times over: none of them may make an object. */
    private static void dear(MonthPush x) {
        for (int i = 0; i < 100; i++) {
            x.worlds(1 + i * 3, i, 20, 10, i % 3);
            x.hats(i, 40, 10, i % 3);
            x.span(1 + i, 10, 0);
            x.usual(1 + i, 10, 0);
            x.draw(i, 200);
            x.many();
            x.keep(i % 3);
            x.back(i % 3);
            x.row(i % 4, i % 4, 60);
            x.land();
        }
    }

    private static void room() {
        MonthPush warm = Check.with(LAND);
        warm.draw(1, 200);
        dear(warm);
        made();
        long before = made();
        MonthPush x = new MonthPush();
        long withNew = made();
        C.holds("a new object has some 4,000 numbers: " + (withNew - before), withNew - before < 60000);
        Check.tell(x, LAND);
        x.draw(1, 200);
        x.keep(0);
        x.keep(1);
        x.keep(2);
        before = made();
        dear(x);
        C.holds("a thousand calls make next to nothing: " + (made() - before), made() - before < 20000);
    }
}
