import java.lang.management.ManagementFactory;
import java.util.Random;

/** The ends of the ints in every argument: no call throws, a refused one changes nothing, none fills the room. */
public final class EdgesTest {
    private static final Due due = new Due("EdgesTest");
    private static final int[] ENDS = {Integer.MIN_VALUE, Integer.MIN_VALUE + 1, -100000, -101, -100, -99, -15, -10, -3, -2,
        -1, 0, 1, 2, 3, 4, 5, 6, 7, 8, 9, 10, 11, 20, 21, 39, 40, 41, 49, 50, 59, 60, 61, 99, 100, 101, 120, 139, 140, 200,
        300, 339, 400, 401, 439, 440, 499, 500, 539, 540, 600, 999, 1000, 1001, 1651, 3304, 9999, 10000, 28005, 39280, 99000,
        99090, 99999, 100000, 198999, 199000, 0x3b32312b, Integer.MAX_VALUE - 1, Integer.MAX_VALUE};
    private static final int CALLS = 38;

    public static void main(String[] args) {
        for (long seed = 0; seed < 400; seed++) {
            drawn(seed);
        }
        room();
        due.end();
    }

    private static long call(KinkStreet x, int which, int a, int b, int c, int d, int e) {
        switch (which) {
            case 1: return x.street();
            case 2: return x.plot(a, b, c);
            case 3: return x.plots(a, b, c, d);
            case 4: return x.mend(a, b, c);
            case 5: return x.of(a, b);
            case 6: return x.misfit(a, b, c);
            case 7: return x.rod(a, b, c, d);
            case 8: return x.chance(a, b, c, d);
            case 9: return x.first(a, b, c);
            case 10: return x.led(a, b);
            case 11: return x.pieces(a, b, c);
            case 12: return x.bend(a);
            case 13: return x.order(a);
            case 14: return x.wall(a, b, c);
            case 15: return x.furrow(a);
            case 16: return x.market(a, b);
            case 17: return x.deed(a, b);
            case 18: return x.stands(a, b);
            case 19: return x.burn();
            case 20: return x.all(a, b, c);
            default: return callBehind(x, which, a, b, c, d, e);
        }
    }

    private static long callBehind(KinkStreet x, int which, int a, int b, int c, int d, int e) {
        switch (which) {
            case 21: return x.feed(a, b);
            case 22: return x.law();
            case 23: return x.town(a, b, c);
            case 24: return x.story(a, b, c, d);
            case 25: return x.dig(a);
            case 26: return x.undo();
            case 27: return x.redo();
            case 28: return x.body(a);
            case 29: return x.act(a, b, c);
            case 30: return x.trace(a);
            case 31: return x.keep(a, b);
            case 32: return x.row(a, b, c);
            case 33: return x.put(a, b, (long) c << d);
            case 34: return x.element(a, b);
            case 35: return x.shift(a, b, c, d, e);
            case 36: return x.taken(a, b);
            case 37: return x.count(a);
            default: return x.of(a, 0);
        }
    }

    /** All that can be told of an object without changing it. */
    static String told(KinkStreet x) {
        StringBuilder told = new StringBuilder();
        for (int what = 0; what < 8; what++) {
            told.append(x.count(what)).append(' ');
        }
        for (int s = 0; s < x.count(0); s++) {
            for (int p = 0; p < x.of(s, 0); p++) {
                told.append(x.of(s, 100 + p)).append(' ').append(x.of(s, 200 + p)).append(' ').append(x.of(s, 300 + p));
            }
            told.append(x.of(s, 1)).append(x.order(s));
        }
        for (int shelf = 0; shelf < 6; shelf++) {
            told.append(x.taken(shelf, 0)).append(' ');
            for (int i = 0; i < 60; i++) {
                told.append(x.element(shelf, i)).append(' ');
            }
        }
        return told.toString();
    }

    private static boolean isRefused(int which, long answer) {
        boolean law = which == 22 && answer <= -100;
        boolean byNumber = which == 29 || which == 34 || which == 5 || which == 37;
        return !law && !byNumber && (which == 4 ? answer == KinkStreet.VOID : answer < 0);
    }

    private static void drawn(long seed) {
        Random random = new Random(seed);
        KinkStreet x = new KinkStreet();
        String before = told(x);
        int alike = 0;
        for (int i = 0; i < 512; i++) {
            int which = 1 + random.nextInt(CALLS);
            int[] v = new int[5];
            for (int k = 0; k < v.length; k++) {
                v[k] = random.nextInt(3) > 0 ? random.nextInt(4) : ENDS[random.nextInt(ENDS.length)];
            }
            long answer = call(x, which, v[0], v[1], v[2], v[3], v[4]);
            String behind = told(x);
            if (isRefused(which, answer) && !behind.equals(before)) {
                due.is("seed " + seed + ", call " + i + ", number " + which + " was refused, but changed something", 1, 0);
            } else {
                alike++;
            }
            before = behind;
        }
        due.is("seed " + seed, alike, 512);
    }

    /** What the dearest calls make is counted by the machine: one run of them must stay far below the room's 7.3 million. */
    private static void room() {
        com.sun.management.ThreadMXBean threads = (com.sun.management.ThreadMXBean) ManagementFactory.getThreadMXBean();
        long thread = Thread.currentThread().getId();
        for (int which = 1; which < CALLS; which++) {
            KinkStreet x = full();
            long before = threads.getThreadAllocatedBytes(thread);
            long sum = 0;
            for (int i = 0; i < 400; i++) {
                sum += call(x, which, i % 6, which == 8 ? 39 : i % 5, which == 8 ? 402 : i % 3, i % 4, i % 7);
            }
            sum += x.first(0, 28050, 0) + x.story(0, 39028, 60, -1) + x.all(0, 99, -1) + x.pieces(0, 30, -2);
            long made = threads.getThreadAllocatedBytes(thread) - before;
            due.holds("call " + which + " makes nothing, but made " + made + " bytes (" + sum + ")", made < 20000);
        }
    }

    private static KinkStreet full() {
        KinkStreet x = new KinkStreet();
        x.street();
        for (int p = 0; p < 40; p++) {
            x.plot(0, 20 + p % 7 * 40, 99000 + p % 11);
        }
        for (int i = 0; i < 3; i++) {
            x.feed(4, 'z' | '%' << 8 | '4' << 16 | '+' << 24);
            x.feed(1, '0' + i);
            x.law();
        }
        x.deed(10, 20);
        x.deed(21, 30);
        x.deed(34, 40);
        x.body(4);
        x.row(0, 1, 60);
        return x;
    }
}
