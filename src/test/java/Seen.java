import java.util.ArrayList;
import java.util.List;
import java.util.function.Supplier;

/** All that can be seen of an object by calls that change nothing: more than one object may be asked in its calls. */
final class Seen {
    private static final List<Call> LOOKS = looks();

    private Seen() {
    }

    private static List<Call> looks() {
        List<Call> looks = new ArrayList<>();
        for (int what = 0; what <= 7; what++) {
            looks.add(Call.of("count", what));
        }
        for (int street = 0; street <= 5; street++) {
            looks.add(Call.of("order", street));
            for (int what = 0; what < 440; what = what == 2 || what % 100 == 39 ? what / 100 * 100 + 100 : what + 1) {
                looks.add(Call.of("of", street, what));
            }
        }
        for (int shelf = 0; shelf <= 5; shelf++) {
            looks.add(Call.of("taken", shelf, 0));
            for (int i = 0; i < 60; i++) {
                looks.add(Call.of("element", shelf, i));
            }
        }
        for (int i = 0; i < 24; i++) {
            looks.add(Call.of("trace", i));
        }
        return looks;
    }

    /** The maker gives a new object, of which so many calls have been asked, each time. */
    static List<Long> of(Supplier<KinkStreet> maker, int asked) {
        List<Long> seen = new ArrayList<>();
        int most = Call.MOST - asked;
        for (int from = 0; from < LOOKS.size(); from += most) {
            seen.addAll(Call.all(LOOKS.subList(from, Math.min(LOOKS.size(), from + most)), maker.get()));
        }
        return seen;
    }

    static List<Long> behind(List<Call> calls) {
        return of(() -> {
            KinkStreet x = new KinkStreet();
            Call.all(calls, x);
            return x;
        }, calls.size());
    }
}
