import java.util.ArrayList;
import java.util.List;
import java.util.Random;

/** Runs of 512 drawn calls, each asked of KinkStreet and of Model: all promises, right and wrong numbers mixed. */
public final class ModelTest {
    private static final Due due = new Due("ModelTest");
    private static final String SIGNS = "wndyzfic0123456789!-()|&<=>+*/%?; ";

    /** LAWS by which much comes to pass. */
    private static final String[] TOWN_LAWS = {"z<30?1;z<60&w>20?2;3", "z<50?2;3", "f>1?2;z<40?1;3", "y%3+1", "i%2*2+1",
        "n<w?2;n>w?1;3", "c<8?2;c>12?1;3"};

    private final Random random;
    private final KinkStreet x = new KinkStreet();
    private final Model m = new Model();
    private final boolean shortStreets;
    private final int widthUnit;
    private final List<String> calls = new ArrayList<>();
    private boolean alike = true;

    private ModelTest(long seed) {
        random = new Random(seed);
        shortStreets = random.nextInt(4) > 0;
        widthUnit = 20 + random.nextInt(150);
    }

    public static void main(String[] args) {
        int runs = args.length > 0 ? Integer.parseInt(args[0]) : 150;
        long from = args.length > 1 ? Long.parseLong(args[1]) : 0;
        for (long seed = from; seed < from + runs; seed++) {
            new ModelTest(seed).run(seed);
        }
        due.end();
    }

    private void run(long seed) {
        for (int i = 0; i < 512 && alike; i++) {
            step();
        }
        if (!alike) {
            System.out.println("seed " + seed + ", the last calls:");
            calls.subList(Math.max(0, calls.size() - 30), calls.size()).forEach(System.out::println);
        }
    }

    private int below(int n) {
        return random.nextInt(n);
    }

    /** Mostly a number from 0 to n less 1, now and then one beside it or far from it. */
    private int near(int n) {
        switch (below(40)) {
            case 0: return -1 - below(3);
            case 1: return n + below(3);
            case 2: return random.nextInt();
            default: return n <= 0 ? 0 : below(n);
        }
    }

    private int streetNo() {
        return near(Math.max(1, m.count(0)));
    }

    private int size(int street) {
        return Math.max(0, m.of(street, 0));
    }

    private void same(String call, long got, long want) {
        String row = call + " = " + got;
        calls.add(row);
        due.is(call, got, want);
        alike &= got == want;
    }

    private void step() {
        int what = below(100);
        if (what < 25) {
            streetStep();
        } else if (what < 37) {
            rodStep();
        } else if (what < 55) {
            partingStep();
        } else if (what < 67) {
            deedStep();
        } else if (what < 80) {
            townStep();
        } else {
            shelfStep();
        }
    }

    private int width() {
        int w = widthUnit * (1 + below(5)) / (1 + below(3)) + below(5) - 2;
        return below(30) == 0 ? near(1000) : Math.max(1, Math.min(999, w));
    }

    private void streetStep() {
        int s = streetNo();
        switch (below(8)) {
            case 0:
                if (below(3) == 0) {
                    same("street()", x.street(), m.street());
                }
                break;
            case 1:
            case 2:
            case 3: {
                if (shortStreets && size(s) >= 9) {
                    break;
                }
                int aside = size(s) == 0 || below(2) == 0 ? 0 : near(199) - 99;
                int w = width();
                int da = below(40) == 0 ? near(200000) : 1000 * (aside + 99) + (below(3) == 0 ? near(1000) : 90 + below(4));
                same("plot(" + s + ", " + w + ", " + da + ")", x.plot(s, w, da), m.plot(s, w, da));
                break;
            }
            case 4: {
                int sp = 100 * s + near(size(s) + 1);
                int fact = near(3);
                int v = fact == 0 ? width() : fact == 1 ? near(1000) : below(3) == 0 ? 0 : near(199) - 99;
                same("mend(" + sp + ", " + fact + ", " + v + ")", x.mend(sp, fact, v), m.mend(sp, fact, v));
                break;
            }
            case 5:
                same("undo()", x.undo(), m.undo());
                break;
            case 6:
                same("redo()", x.redo(), m.redo());
                break;
            default: {
                int of = below(2) == 0 ? near(3) : 100 * near(5) + near(size(s) + 1);
                same("of(" + s + ", " + of + ")", x.of(s, of), m.of(s, of));
                break;
            }
        }
    }

    private int rowOf(int s) {
        int a = near(size(s));
        int b = Math.max(a, near(size(s)));
        return below(30) == 0 ? random.nextInt() : 100 * a + b;
    }

    private void rodStep() {
        int s = streetNo();
        int ab = rowOf(s);
        int k = 1 + near(4);
        switch (below(5)) {
            case 0: {
                int rk = 10 * (40 + near(291)) + k;
                same("misfit(" + s + ", " + ab + ", " + rk + ")", x.misfit(s, ab, rk), m.misfit(s, ab, rk));
                break;
            }
            case 1: {
                int what = near(2);
                same("rod(" + s + ", " + ab + ", " + k + ", " + what + ")", x.rod(s, ab, k, what), m.rod(s, ab, k, what));
                break;
            }
            case 2: {
                int kn = 100 * k + (below(4) == 0 ? near(52) : 1 + below(4));
                int seed = random.nextInt();
                same("chance(" + s + ", " + ab + ", " + kn + ", " + seed + ")", x.chance(s, ab, kn, seed),
                    m.chance(s, ab, kn, seed));
                break;
            }
            case 3:
                same("market(" + s + ", " + ab + ")", x.market(s, ab), m.market(s, ab));
                break;
            default:
                same("furrow(" + s + ")", x.furrow(s), m.furrow(s));
                break;
        }
    }

    private void partingStep() {
        int s = streetNo();
        switch (below(7)) {
            case 0:
            case 1: {
                int ws = below(20) == 0 ? near(101000) : 100 * (widthUnit + below(9) - 4) + below(widthUnit > 99 ? 50 : 20);
                if (size(s) > 9) {
                    break;
                }
                int what = near(3);
                same("first(" + s + ", " + ws + ", " + what + ")", x.first(s, ws, what), m.first(s, ws, what));
                int sp = 100 * s + near(size(s) + 1);
                same("led(" + sp + ", " + ws + ")", x.led(sp, ws), m.led(sp, ws));
                break;
            }
            case 2:
            case 3: {
                if (size(s) > 20) {
                    break;
                }
                int price = below(3) == 0 ? near(10000) : below(200);
                for (int i = -2; i < 3; i++) {
                    int asked = below(5) == 0 ? near(8) - 2 : i;
                    same("pieces(" + s + ", " + price + ", " + asked + ")", x.pieces(s, price, asked),
                        m.pieces(s, price, asked));
                }
                break;
            }
            case 4: {
                int d = below(10) == 0 ? random.nextInt() : 88 + below(6);
                int what = near(3);
                same("wall(" + s + ", " + d + ", " + what + ")", x.wall(s, d, what), m.wall(s, d, what));
                break;
            }
            case 5: {
                int to = 10 * s + Math.max(0, near(6));
                if (below(3) == 0) {
                    same("bend(" + to + ")", x.bend(to), m.bend(to));
                }
                break;
            }
            default: {
                int i = near(8) - 1;
                same("order(" + i + ")", x.order(i), m.order(i));
                break;
            }
        }
    }

    /** What a DEED may well have said of two PLOTS of the STREET, so that some can be put together. */
    private int feetBetween(int s) {
        int a = below(size(s) + 1);
        int b = below(size(s) + 1);
        return Math.min(999, Math.max(0, (m.of(s, 400 + Math.max(a, b)) - m.of(s, 400 + Math.min(a, b))) / 10));
    }

    private void deedStep() {
        int s = streetNo();
        int names = 2 + below(7);
        switch (below(6)) {
            case 0: {
                int no = below(20) == 0 ? near(90) : 10 * below(names) + below(names);
                int feet = below(5) == 0 ? near(1000) : below(3) == 0 ? below(60) : feetBetween(s);
                same("deed(" + no + ", " + feet + ")", x.deed(no, feet), m.deed(no, feet));
                break;
            }
            case 1: {
                int name = near(8);
                int place = below(2) == 0 ? near(40) : below(8);
                same("stands(" + name + ", " + place + ")", x.stands(name, place), m.stands(name, place));
                break;
            }
            case 2:
                if (below(2) == 0) {
                    same("burn()", x.burn(), m.burn());
                }
                break;
            default: {
                if (size(s) > 9) {
                    break;
                }
                int slack = below(3) == 0 ? near(100) : below(12);
                int name = below(3) == 0 ? -1 : near(8);
                same("all(" + s + ", " + slack + ", " + name + ")", x.all(s, slack, name), m.all(s, slack, name));
                break;
            }
        }
    }

    private String expression(int level, int open) {
        String[] chains = {"|", "&", "<=>", "+-", "*/%"};
        if (level == 5) {
            int kind = below(open < 6 ? 12 : 7);
            if (kind < 4) {
                return "" + "wndyzfic".charAt(below(8));
            }
            if (kind < 9) {
                return "" + below(below(2) == 0 ? 4 : below(2) == 0 ? 101 : 10000);
            }
            return kind == 9 ? "!" + expression(5, open + 1) : kind == 10 ? "-" + expression(5, open + 1)
                : "(" + expression(0, open + 1) + ")";
        }
        StringBuilder text = new StringBuilder(expression(level + 1, open));
        for (int links = 0; links < (level == 2 ? 1 : 3) && below(open == 0 ? 3 : 4) == 0; links++) {
            text.append(chains[level].charAt(below(chains[level].length()))).append(expression(level + 1, open));
        }
        return text.toString();
    }

    private String text() {
        if (below(3) == 0) {
            return TOWN_LAWS[below(TOWN_LAWS.length)];
        }
        StringBuilder text = new StringBuilder();
        int lines = 1 + below(4);
        for (int line = 0; line < lines; line++) {
            text.append(line == 0 ? "" : ";");
            text.append(below(4) > 0 ? expression(0, 0) + "?" + (below(4) > 0 ? "" + below(4) : expression(0, 0))
                : expression(0, 0));
        }
        if (below(3) == 0) {
            int at = below(text.length());
            int kind = below(3);
            if (kind == 0) {
                text.setLength(at);
            } else if (kind == 1) {
                text.insert(at, SIGNS.charAt(below(SIGNS.length())));
            } else {
                text.setCharAt(at, below(20) == 0 ? (char) below(256) : SIGNS.charAt(below(SIGNS.length())));
            }
        }
        return text.toString();
    }

    private void feed(String text) {
        int at = 0;
        while (at < text.length()) {
            int n = Math.min(text.length() - at, 1 + below(4));
            int v = random.nextInt();
            for (int i = 0; i < n; i++) {
                v = v & ~(255 << 8 * i) | text.charAt(at + i) << 8 * i;
            }
            same("feed(" + n + ", " + v + ")", x.feed(n, v), m.feed(n, v));
            at += n;
        }
    }

    private void townStep() {
        int nw = 1000 * (2 + near(shortStreets ? 7 : 38)) + (below(10) == 0 ? near(1000) : widthUnit);
        int years = below(4) == 0 ? near(61) : below(12);
        switch (below(6)) {
            case 0:
            case 1: {
                if (m.count(2) < 4 || below(10) == 0) {
                    String text = text();
                    if (text.length() < 100 || below(10) == 0) {
                        feed(text);
                        same("law() " + text, x.law(), m.law());
                    }
                }
                break;
            }
            case 2: {
                int n = near(5);
                int v = random.nextInt();
                if (below(20) == 0) {
                    same("feed(" + n + ", " + v + ")", x.feed(n, v), m.feed(n, v));
                }
                break;
            }
            case 3: {
                int ly = 100 * near(m.count(2)) + years;
                int seed = random.nextInt();
                if (below(3) == 0) {
                    int town = m.town(nw, ly, seed);
                    same("town(" + nw + ", " + ly + ", " + seed + ")", x.town(nw, ly, seed), town);
                    for (int what = 100; what < 500 && town >= 0; what = what % 100 == 39 ? what + 61 : what + 1) {
                        due.is("of(" + town + ", " + what + ")", x.of(town, what), m.of(town, what));
                    }
                }
                break;
            }
            case 4: {
                int s = streetNo();
                int law = near(m.count(2) + 1) - 1;
                int years2 = below(3) == 0 ? years : below(6);
                int nw2 = below(2) == 0 && size(s) > 1 ? 1000 * size(s) + 100 : nw;
                same("story(" + s + ", " + nw2 + ", " + years2 + ", " + law + ")", x.story(s, nw2, years2, law),
                    m.story(s, nw2, years2, law));
                break;
            }
            default: {
                int so = below(20) == 0 ? near(70) : 10 * below(6) + below(6);
                same("dig(" + so + ")", x.dig(so), m.dig(so));
                break;
            }
        }
    }

    private long value() {
        switch (below(6)) {
            case 0: return random.nextLong();
            case 1: return random.nextInt();
            case 2: return 0;
            default: return below(200);
        }
    }

    private void shelfStep() {
        int shelf = below(10) == 0 ? near(6) : below(3);
        int place = near(below(2) == 0 ? 12 : 60);
        switch (below(12)) {
            case 0: {
                int kind = near(8);
                if (below(2) == 0) {
                    same("body(" + kind + ")", x.body(kind), m.body(kind));
                }
                break;
            }
            case 1:
            case 2: {
                int body = near(m.count(6));
                int act = near(4);
                int v = below(2) == 0 ? below(20) : random.nextInt();
                same("act(" + body + ", " + act + ", " + v + ")", x.act(body, act, v), m.act(body, act, v));
                for (int i = 0; i < 5; i++) {
                    int at = near(12);
                    same("trace(" + at + ")", x.trace(at), m.trace(at));
                }
                break;
            }
            case 3: {
                int body = near(m.count(6) + 1) - 1;
                same("keep(" + shelf + ", " + body + ")", x.keep(shelf, body), m.keep(shelf, body));
                break;
            }
            case 4: {
                int sort = below(2) == 0 ? 1 : near(5);
                int n = near(below(2) == 0 ? 12 : 61);
                same("row(" + shelf + ", " + sort + ", " + n + ")", x.row(shelf, sort, n), m.row(shelf, sort, n));
                break;
            }
            case 5:
            case 6: {
                long v = value();
                same("put(" + shelf + ", " + place + ", " + v + ")", x.put(shelf, place, v), m.put(shelf, place, v));
                break;
            }
            case 7:
                same("element(" + shelf + ", " + place + ")", x.element(shelf, place), m.element(shelf, place));
                break;
            case 8: {
                int other = near(3);
                int j = near(12);
                int n = near(8);
                same("shift(" + shelf + ", " + place + ", " + other + ", " + j + ", " + n + ")",
                    x.shift(shelf, place, other, j, n), m.shift(shelf, place, other, j, n));
                break;
            }
            case 9: {
                int k = near(8);
                same("taken(" + shelf + ", " + k + ")", x.taken(shelf, k), m.taken(shelf, k));
                break;
            }
            case 10:
                plotsStep(shelf);
                break;
            default: {
                int what = near(8);
                same("count(" + what + ")", x.count(what), m.count(what));
                break;
            }
        }
    }

    private void plotsStep(int shelf) {
        int s = streetNo();
        if (shortStreets && size(s) > 6) {
            return;
        }
        for (int i = 0; i < 6; i++) {
            int v = i % 3 == 0 ? width() : i % 3 == 1 ? near(1000) : size(s) == 0 && i < 3 ? 0 : near(199) - 99;
            same("put(" + shelf + ", " + i + ", " + v + ")", x.put(shelf, i, v), m.put(shelf, i, v));
        }
        int from = below(5) == 0 ? near(12) : 0;
        int n = below(3) == 0 ? near(21) : 1 + below(2);
        if (shortStreets && n > 3) {
            n = 3;
        }
        same("plots(" + s + ", " + shelf + ", " + from + ", " + n + ")", x.plots(s, shelf, from, n), m.plots(s, shelf, from, n));
    }
}
