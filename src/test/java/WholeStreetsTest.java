import java.util.Arrays;
import java.util.Random;

/** STREETS of up to 40 PLOTS, too long for Model: first plots by ways from both ends, PIECES and DEEDS by trying all. */
public final class WholeStreetsTest {
    private static final Due due = new Due("WholeStreetsTest");
    private static final int NONE = 1000000;

    private final Random random;
    private final int n;
    private final int unit;
    private final int[] widths;
    private final int[] at;
    private final boolean[] kinks;
    private final KinkStreet x = new KinkStreet();

    private WholeStreetsTest(long seed) {
        random = new Random(seed);
        n = seed % 3 == 0 ? 40 : 25 + random.nextInt(16);
        unit = 30 + random.nextInt(120);
        widths = new int[n];
        at = new int[n + 1];
        kinks = new boolean[n];
        x.street();
        int jitter = 1 + random.nextInt(9);
        int parts = 1 + random.nextInt(2);
        for (int p = 0; p < n; p++) {
            widths[p] = Math.max(1, Math.min(999, unit * (1 + random.nextInt(4)) / (1 + random.nextInt(parts + 1))
                + random.nextInt(jitter) - jitter / 2));
            at[p + 1] = at[p] + widths[p];
            kinks[p] = p > 0 && random.nextInt(6) == 0;
            x.plot(0, widths[p], 1000 * (99 + (kinks[p] ? 1 + random.nextInt(99) : 0)) + 90);
        }
    }

    public static void main(String[] args) {
        int streets = args.length > 0 ? Integer.parseInt(args[0]) : 60;
        long from = args.length > 1 ? Long.parseLong(args[1]) : 0;
        int parted = 0;
        for (long seed = from; seed < from + streets; seed++) {
            WholeStreetsTest one = new WholeStreetsTest(seed);
            for (int i = 0; i < 4; i++) {
                parted += one.firstPlots() ? 1 : 0;
            }
            one.pieces(0);
            one.pieces(one.random.nextInt(100));
            one.pieces(one.random.nextInt(1000));
            one.deeds();
        }
        due.holds("some can be parted, and some not: " + parted, parted > streets && parted < 4 * streets);
        due.end();
    }

    /** 1000 times the JOININGS AND PARTINGS, and the GROUPS: of one GROUP. */
    private static int worth(int p, int f) {
        return 1000 * (p - 1 + f - 1) + 1;
    }

    private static boolean isGroup(int sum, int f, int w, int slack) {
        return sum >= f * (w - slack) && sum <= f * (w + slack);
    }

    private int[] leastAhead(int w, int slack) {
        int[] least = new int[n + 1];
        for (int end = 1; end <= n; end++) {
            least[end] = NONE;
            for (int begin = Math.max(0, end - 6); begin < end; begin++) {
                for (int f = 6; f >= 1; f--) {
                    if (isGroup(at[end] - at[begin], f, w, slack)) {
                        least[end] = Math.min(least[end], least[begin] + worth(end - begin, f));
                    }
                }
            }
        }
        return least;
    }

    private int[] leastBehind(int w, int slack) {
        int[] least = new int[n + 1];
        for (int begin = n - 1; begin >= 0; begin--) {
            least[begin] = NONE;
            for (int p = 1; p <= 6 && begin + p <= n; p++) {
                for (int f = 1; f <= 6; f++) {
                    if (isGroup(at[begin + p] - at[begin], f, w, slack)) {
                        least[begin] = Math.min(least[begin], least[begin + p] + worth(p, f));
                    }
                }
            }
        }
        return least;
    }

    /** How many PLOTS the GROUP takes and for how many first ones, as the first of those that are on a best way. */
    private int[] nextGroup(int begin, int w, int slack, int[] ahead, int[] behind) {
        for (int p = 1; p <= 6 && begin + p <= n; p++) {
            for (int f = 1; f <= 6; f++) {
                if (isGroup(at[begin + p] - at[begin], f, w, slack)
                    && ahead[begin] + worth(p, f) + behind[begin + p] == ahead[n]) {
                    return new int[] {p, f};
                }
            }
        }
        throw new IllegalStateException("a best way ends at " + begin);
    }

    private boolean firstPlots() {
        int w = Math.max(10, unit / (1 + random.nextInt(2)) + random.nextInt(5) - 2);
        int slack = random.nextInt(Math.min(100, 2 + w / 3));
        int ws = 100 * w + slack;
        int[] ahead = leastAhead(w, slack);
        int[] behind = leastBehind(w, slack);
        boolean can = ahead[n] < NONE;
        due.promise(10);
        due.is("first(0, " + ws + ", 0)", x.first(0, ws, 0), can ? ahead[n] / 1000 : KinkStreet.NOT);
        due.is("first(0, " + ws + ", 1)", x.first(0, ws, 1), can ? ahead[n] % 1000 : KinkStreet.NOT);
        due.promise(11);
        int came = 0;
        int begin = 0;
        int[] group = {0, 0};
        for (int p = 0; p < n; p++) {
            if (can && p == begin + group[0]) {
                came += group[1];
                begin = p;
                group = nextGroup(p, w, slack, ahead, behind);
            }
            due.is("led(" + p + ", " + ws + ")", x.led(p, ws), can ? came : KinkStreet.NOT);
        }
        due.promise(10);
        due.is("first(0, " + ws + ", 2)", x.first(0, ws, 2), can ? came + group[1] : KinkStreet.NOT);
        return can;
    }

    private int pieceCost(int begin, int end, int price) {
        int[] piece = Arrays.copyOfRange(widths, begin, end);
        Arrays.sort(piece);
        int sum = kinks[begin] ? 0 : price;
        for (int width : piece) {
            sum += Math.abs(width - piece[(piece.length - 1) / 2]);
        }
        return sum;
    }

    private int[][] pieceCosts(int price) {
        int[][] costs = new int[n + 1][n + 1];
        for (int begin = 0; begin < n; begin++) {
            for (int end = begin + 2; end <= n; end++) {
                costs[begin][end] = pieceCost(begin, end, price);
            }
        }
        return costs;
    }

    private void pieces(int price) {
        int[][] costs = pieceCosts(price);
        int[] best = {NONE};
        for (int many = 1; many <= 5; many++) {
            best = tryBreaks(costs, new int[] {0, 0}, many, best);
        }
        due.promise(12);
        for (int i = -2; i < 5; i++) {
            int want = i == -2 ? best[0] : i == -1 ? best.length - 1 : i + 1 < best.length ? best[i + 1] : KinkStreet.BAD;
            due.is("pieces(0, " + price + ", " + i + ")", x.pieces(0, price, i), want);
        }
    }

    /** A way is the sum of the PIECES that are ended, and where each one begins. */
    private int[] tryBreaks(int[][] costs, int[] way, int many, int[] best) {
        int begin = way[way.length - 1];
        if (way.length - 1 == many) {
            int sum = begin <= n - 2 ? way[0] + costs[begin][n] : NONE;
            if (sum >= best[0]) {
                return best;
            }
            int[] better = way.clone();
            better[0] = sum;
            return better;
        }
        int[] found = best;
        for (int end = begin + 2; end <= n - 2; end++) {
            int[] next = Arrays.copyOf(way, way.length + 1);
            next[0] += costs[begin][end];
            next[way.length] = end;
            found = tryBreaks(costs, next, many, found);
        }
        return found;
    }

    /** Three NAMES by two DEEDS or three, of which one may say where a PLOT stands. */
    private void deeds() {
        due.promise(21);
        int slack = random.nextInt(60);
        int[][] told = new int[2 + random.nextInt(2)][];
        int[] kept = {random.nextInt(n), random.nextInt(n), random.nextInt(n)};
        for (int d = 0; d < told.length; d++) {
            int one = random.nextInt(3);
            int other = d == 2 ? -1 : (one + 1 + random.nextInt(2)) % 3;
            int feet = other < 0 ? kept[one] : Math.min(999, Math.abs(at[kept[one]] - at[kept[other]]) / 10);
            told[d] = new int[] {one, other, feet};
            due.is("deed", other < 0 ? x.stands(one + 3, feet) : x.deed(10 * (one + 3) + other + 3, feet), d + 1);
        }
        int[] best = null;
        int ways = 0;
        boolean[] named = named(told);
        for (int a = 0; a < (named[0] ? n : 1); a++) {
            for (int b = 0; b < (named[1] ? n : 1); b++) {
                for (int c = 0; c < (named[2] ? n : 1); c++) {
                    int[] plots = {named[0] ? a : -1, named[1] ? b : -2, named[2] ? c : -3};
                    if (holds(told, plots, slack)) {
                        best = best == null ? plots : best;
                        ways++;
                    }
                }
            }
        }
        due.is("all(0, " + slack + ", -1)", x.all(0, slack, -1), ways == 0 ? KinkStreet.NOT : ways);
        for (int name = 0; name < 3; name++) {
            int want = !named[name] ? KinkStreet.BAD : best == null ? KinkStreet.NOT : best[name];
            due.is("all(0, " + slack + ", " + (name + 3) + ")", x.all(0, slack, name + 3), want);
        }
        due.is("burn", x.burn(), told.length);
    }

    private static boolean[] named(int[][] told) {
        boolean[] named = new boolean[3];
        for (int[] t : told) {
            named[t[0]] = true;
            if (t[1] >= 0) {
                named[t[1]] = true;
            }
        }
        return named;
    }

    private boolean holds(int[][] told, int[] plots, int slack) {
        if (plots[0] == plots[1] || plots[1] == plots[2] || plots[0] == plots[2]) {
            return false;
        }
        for (int[] t : told) {
            boolean holds = t[1] < 0 ? plots[t[0]] == t[2]
                : Math.abs(at[plots[t[0]]] - at[plots[t[1]]] - 10 * t[2]) <= 10 * slack;
            if (!holds) {
                return false;
            }
        }
        return true;
    }
}
