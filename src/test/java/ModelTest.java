import java.util.ArrayList;
import java.util.HashMap;
import java.util.List;
import java.util.Map;

/** Drawn runs of as many calls as an object is used for: KinkStreet answers each one as Model does. */
public final class ModelTest {
    private static final Due due = new Due("ModelTest");
    /** By name of the call: in how many runs it was asked and not refused, and in how many it was refused. */
    private static final Map<String, Integer> answered = new HashMap<>();
    private static final Map<String, Integer> refused = new HashMap<>();

    public static void main(String[] args) {
        int runs = args.length > 0 ? Integer.parseInt(args[0]) : 400;
        long from = args.length > 1 ? Long.parseLong(args[1]) : 0;
        for (long seed = from; seed < from + runs; seed++) {
            ask(seed, new DrawnRun(seed));
        }
        for (String name : Call.face().keySet()) {
            due.holds(name + " is answered in a tenth of the runs, not in " + answered.getOrDefault(name, 0),
                10 * answered.getOrDefault(name, 0) >= runs);
            boolean isNeverRefused = List.of("of", "act", "element", "burn", "law").contains(name);
            due.holds(name + " is refused in a tenth of the runs, not in " + refused.getOrDefault(name, 0),
                isNeverRefused || 10 * refused.getOrDefault(name, 0) >= runs);
        }
        due.end();
    }

    private static void ask(long seed, DrawnRun run) {
        due.is("calls of run " + seed, run.calls.size(), Call.MOST);
        KinkStreet x = new KinkStreet();
        List<String> rows = new ArrayList<>();
        Map<String, Integer> answeredHere = new HashMap<>();
        Map<String, Integer> refusedHere = new HashMap<>();
        for (int i = 0; i < run.calls.size(); i++) {
            Call call = run.calls.get(i);
            long got = call.on(x);
            rows.add(call + " = " + got);
            due.is(call + ", call " + i + " of run " + seed, got, run.due.get(i));
            if (got != run.due.get(i)) {
                rows.subList(Math.max(0, i - 30), i + 1).forEach(System.out::println);
                return;
            }
            (call.isRefusedBy(got) ? refusedHere : answeredHere).put(call.name(), 1);
        }
        answeredHere.forEach((name, one) -> answered.merge(name, one, Integer::sum));
        refusedHere.forEach((name, one) -> refused.merge(name, one, Integer::sum));
    }
}
