import java.lang.management.ManagementFactory;
import java.util.ArrayList;
import java.util.List;
import java.util.Random;

/** The ends of the ints in every argument: no call throws, a refused one changes nothing, none fills the room. */
public final class EdgesTest {
    private static final Due due = new Due("EdgesTest");
    private static final int[] ENDS = {Integer.MIN_VALUE, Integer.MIN_VALUE + 1, -100000, -101, -100, -99, -15, -10, -3, -2,
        -1, 0, 1, 2, 3, 4, 5, 6, 7, 8, 9, 10, 11, 20, 21, 39, 40, 41, 49, 50, 59, 60, 61, 99, 100, 101, 120, 139, 140, 200,
        300, 339, 400, 401, 439, 440, 499, 500, 539, 540, 600, 999, 1000, 1001, 1651, 3304, 9999, 10000, 28005, 39280, 99000,
        99090, 99999, 100000, 198999, 199000, 0x3b32312b, Integer.MAX_VALUE - 1, Integer.MAX_VALUE};
    private static final List<String> NAMES = List.copyOf(Call.face().keySet());

    public static void main(String[] args) {
        for (long seed = 0; seed < 400; seed++) {
            drawn(seed);
        }
        room();
        due.end();
    }

    private static List<Call> draw(Random random, int many) {
        List<Call> calls = new ArrayList<>();
        for (int i = 0; i < many; i++) {
            String name = NAMES.get(random.nextInt(NAMES.size()));
            long[] arguments = new long[Call.face().get(name)];
            for (int k = 0; k < arguments.length; k++) {
                arguments[k] = random.nextInt(3) > 0 ? random.nextInt(4) : ENDS[random.nextInt(ENDS.length)];
                arguments[k] <<= name.equals("put") && k == 2 ? random.nextInt(50) : 0;
            }
            calls.add(Call.of(name, arguments));
        }
        return calls;
    }

    /** An object of which no refused call has been asked answers all others as one of which they all have been. */
    private static void drawn(long seed) {
        Random random = new Random(seed);
        List<Call> calls = draw(random, 1 + random.nextInt(Call.MOST - 100));
        List<Long> answers = Call.all(calls, new KinkStreet());
        List<Call> taken = new ArrayList<>();
        List<Long> takenAnswers = new ArrayList<>();
        for (int i = 0; i < calls.size(); i++) {
            if (!calls.get(i).isRefusedBy(answers.get(i))) {
                taken.add(calls.get(i));
                takenAnswers.add(answers.get(i));
            }
        }
        due.holds("seed " + seed + ": the same answers without the refused calls",
            Call.all(taken, new KinkStreet()).equals(takenAnswers));
        due.holds("seed " + seed + ": the same sight without the refused calls", Seen.behind(taken).equals(Seen.behind(calls)));
    }

    /** The machine counts what is made: the object little beside the room's 7.3 million elements, its calls nothing. */
    private static void room() {
        com.sun.management.ThreadMXBean threads = (com.sun.management.ThreadMXBean) ManagementFactory.getThreadMXBean();
        long thread = Thread.currentThread().getId();
        round(full());
        long before = threads.getThreadAllocatedBytes(thread);
        KinkStreet x = full();
        long behind = threads.getThreadAllocatedBytes(thread);
        long sum = 0;
        for (int i = 0; i < 10; i++) {
            sum += round(x);
        }
        long made = threads.getThreadAllocatedBytes(thread) - behind;
        due.holds("an object takes " + (behind - before) + " bytes", behind - before < 100000);
        due.holds("calls make nothing, but made " + made + " bytes (" + sum + ")", made < 1000);
    }

    /** Each call once. */
    private static long round(KinkStreet x) {
        long sum = x.street() + x.plot(0, 100, 99100) + x.plots(1, 0, 0, 20) + x.mend(3, 0, 101) + x.of(0, 1)
            + x.misfit(0, 39, 1651) + x.rod(0, 39, 4, 0) + x.chance(0, 39, 450, 7) + x.first(0, 28050, 0) + x.led(39, 28050)
            + x.pieces(0, 30, -2) + x.bend(10) + x.order(0) + x.wall(0, 3, 1) + x.furrow(0) + x.market(0, 204);
        sum += x.deed(10, 20) + x.stands(3, 3) + x.all(0, 99, -1) + x.burn() + x.feed(4, 0x31313131) + x.law()
            + x.town(39028, 60, 5) + x.story(0, 39028, 60, -1) + x.dig(1) + x.undo() + x.redo();
        return sum + x.body(4) + x.act(0, 3, 9) + x.trace(2) + x.keep(1, 0) + x.row(2, 1, 60) + x.put(2, 9, 99)
            + x.element(2, 9) + x.shift(2, 0, 2, 30, 30) + x.taken(1, 0) + x.count(7);
    }

    private static KinkStreet full() {
        KinkStreet x = new KinkStreet();
        x.street();
        for (int p = 0; p < 40; p++) {
            x.plot(0, 20 + p % 7 * 40, 99000 + p % 11);
        }
        for (int i = 0; i < 3; i++) {
            x.feed(4, 'z' | '%' << 8 | '4' << 16 | '+' << 24);
            x.feed(1, '0' + i);
            x.law();
        }
        x.deed(10, 20);
        x.deed(21, 30);
        x.deed(34, 40);
        x.body(4);
        x.row(0, 1, 60);
        return x;
    }
}
