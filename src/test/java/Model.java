import java.util.ArrayList;
import java.util.Arrays;
import java.util.List;

/**
 * The document once more, written another way: by trying all ways where KinkStreet works from the end,
 * by splitting texts where it reads them once, and by Java's own classes, arrays and exceptions.
 * It is slow, and meant for short streets.
 */
final class Model {
    private static final int BAD = -1, NOT = -2, FULL = -3, BIG = -4, STATE = -5, VOID = -2000000000;

    private record Plot(int width, int depth, int aside) { }

    private record Deed(int one, int other, int told) { }

    private record Change(int street, int plot, Plot before, Plot after) { }

    private final List<List<Plot>> streets = new ArrayList<>();
    private final List<Deed> deeds = new ArrayList<>();
    private final List<int[]> bends = new ArrayList<>();
    private final List<Change> undos = new ArrayList<>();
    private final List<Change> redos = new ArrayList<>();
    private final StringBuilder tape = new StringBuilder();
    private final List<String> laws = new ArrayList<>();
    private final List<Line> lines = new ArrayList<>();
    private final Object[] shelves = new Object[6];
    private final List<Integer> trace = new ArrayList<>();

    // ---- streets

    private boolean isStreet(int street) {
        return street >= 0 && street < streets.size();
    }

    private static boolean isPlot(int place, int width, int depth, int aside) {
        return width >= 1 && width <= 999 && depth >= 0 && depth <= 999 && Math.abs((long) aside) <= (place == 0 ? 0 : 99);
    }

    private static int at(List<Plot> s, int plot) {
        return s.subList(0, plot).stream().mapToInt(Plot::width).sum();
    }

    private static int kinks(List<Plot> s) {
        return (int) s.stream().filter(p -> p.aside() != 0).count();
    }

    private static int[] widths(List<Plot> s, int ab) {
        return s.subList(ab / 100, ab % 100 + 1).stream().mapToInt(Plot::width).toArray();
    }

    private boolean isRow(int street, int ab) {
        return isStreet(street) && ab >= 0 && ab / 100 <= ab % 100 && ab % 100 < streets.get(street).size();
    }

    int street() {
        if (streets.size() == 6) {
            return FULL;
        }
        streets.add(new ArrayList<>());
        return streets.size() - 1;
    }

    int plot(int street, int width, int da) {
        if (!isStreet(street) || da < 0) {
            return BAD;
        }
        List<Plot> s = streets.get(street);
        if (!isPlot(s.size(), width, da % 1000, da / 1000 - 99)) {
            return BAD;
        }
        if (s.size() == 40) {
            return FULL;
        }
        s.add(new Plot(width, da % 1000, da / 1000 - 99));
        return s.size() - 1;
    }

    int plots(int street, int shelf, int i, int n) {
        if (!isStreet(street) || shelf < 0 || shelf > 5 || n < 1 || n > 20) {
            return BAD;
        }
        List<Plot> s = streets.get(street);
        int came = 0;
        try {
            short[] row = (short[]) shelves[shelf];
            while (came < n && s.size() < 40) {
                int from = i + 3 * came;
                Plot plot = new Plot(row[from], row[from + 1], row[from + 2]);
                if (!isPlot(s.size(), plot.width(), plot.depth(), plot.aside())) {
                    break;
                }
                s.add(plot);
                came++;
            }
        } catch (ClassCastException e) {
            return -12;
        } catch (NullPointerException | ArrayIndexOutOfBoundsException e) {
            return came;
        }
        return came;
    }

    int mend(int sp, int what, int v) {
        int plot = sp % 100;
        if (sp < 0 || !isStreet(sp / 100) || plot >= streets.get(sp / 100).size() || what < 0 || what > 2) {
            return VOID;
        }
        Plot p = streets.get(sp / 100).get(plot);
        Plot q = new Plot(what == 0 ? v : p.width(), what == 1 ? v : p.depth(), what == 2 ? v : p.aside());
        if (!isPlot(plot, q.width(), q.depth(), q.aside())) {
            return VOID;
        }
        if (!p.equals(q)) {
            streets.get(sp / 100).set(plot, q);
            undos.add(new Change(sp / 100, plot, p, q));
            redos.clear();
            if (undos.size() > 40) {
                undos.remove(0);
            }
        }
        return what == 0 ? p.width() : what == 1 ? p.depth() : p.aside();
    }

    int of(int street, int what) {
        if (!isStreet(street) || what < 0) {
            return VOID;
        }
        List<Plot> s = streets.get(street);
        if (what < 3) {
            return new int[] {s.size(), at(s, s.size()), kinks(s)}[what];
        }
        if (what < 100 || what > 499 || what % 100 >= s.size()) {
            return VOID;
        }
        Plot p = s.get(what % 100);
        return new int[] {p.width(), p.depth(), p.aside(), at(s, what % 100)}[what / 100 - 1];
    }

    // ---- rods

    private static int misfit(int[] widths, int r, int k) {
        int sum = 0;
        for (int w : widths) {
            int err = Integer.MAX_VALUE;
            for (int m = r; m <= k * w + r; m += r) {
                err = Math.min(err, Math.abs(k * w - m));
            }
            sum += err;
        }
        return sum * 1000 / (r * widths.length);
    }

    private static int[] best(int[] widths, int k) {
        int[] best = {0, Integer.MAX_VALUE};
        for (int r = 330; r >= 40; r--) {
            int misfit = misfit(widths, r, k);
            if (misfit < best[1]) {
                best = new int[] {r, misfit};
            }
        }
        return best;
    }

    int misfit(int street, int ab, int rk) {
        if (!isRow(street, ab) || rk / 10 < 40 || rk / 10 > 330 || rk % 10 < 1 || rk % 10 > 4) {
            return BAD;
        }
        return misfit(widths(streets.get(street), ab), rk / 10, rk % 10);
    }

    int rod(int street, int ab, int k, int what) {
        if (!isRow(street, ab) || k < 1 || k > 4 || what < 0 || what > 1) {
            return BAD;
        }
        return best(widths(streets.get(street), ab), k)[what];
    }

    int chance(int street, int ab, int kn, int seed) {
        int k = kn / 100;
        int n = kn % 100;
        if (!isRow(street, ab) || k < 1 || k > 4 || n < 1 || n > 50) {
            return BAD;
        }
        int[] widths = widths(streets.get(street), ab);
        int often = 0;
        int z = seed;
        for (int t = 0; t < n; t++) {
            int[] drawn = widths.clone();
            for (int i = 0; i < drawn.length; i++) {
                z = z * 1103515245 + 12345;
                drawn[i] = drawn[i] / 2 + (z >>> 8) % (drawn[i] + 1);
            }
            often += best(drawn, k)[1] <= best(widths, k)[1] ? 1 : 0;
        }
        return often;
    }

    // ---- first plots, pieces

    /**
     * All partings in the order in which the document wants them taken, so that the first best one stays;
     * those are left that already cost as much as it does.
     */
    private static void partings(List<Plot> s, int begin, int w, int slack, int cost, List<int[]> groups, List<int[]> best) {
        if (!best.isEmpty() && cost >= worth(best)) {
            return;
        }
        if (begin == s.size()) {
            best.clear();
            best.addAll(groups);
            return;
        }
        int sum = 0;
        for (int p = 1; p <= 6 && begin + p <= s.size(); p++) {
            sum += s.get(begin + p - 1).width();
            for (int f = 1; f <= 6; f++) {
                if (sum >= f * w - f * slack && sum <= f * w + f * slack) {
                    int[] group = {p, f};
                    groups.add(group);
                    partings(s, begin + p, w, slack, cost + worth(List.of(group)), groups, best);
                    groups.remove(groups.size() - 1);
                }
            }
        }
    }

    private static int worth(List<int[]> groups) {
        int worth = 0;
        for (int[] g : groups) {
            worth += 1000 * (g[0] - 1 + g[1] - 1) + 1;
        }
        return worth;
    }

    private List<int[]> parting(int street, int ws) {
        List<Plot> s = streets.get(street);
        List<int[]> best = new ArrayList<>();
        partings(s, 0, ws / 100, ws % 100, 0, new ArrayList<>(), best);
        return best.isEmpty() && !s.isEmpty() ? null : best;
    }

    int first(int street, int ws, int what) {
        if (!isStreet(street) || ws / 100 < 10 || ws / 100 > 999 || what < 0 || what > 2) {
            return BAD;
        }
        List<int[]> groups = parting(street, ws);
        if (groups == null) {
            return NOT;
        }
        return what == 0 ? worth(groups) / 1000 : what == 1 ? groups.size() : groups.stream().mapToInt(g -> g[1]).sum();
    }

    int led(int sp, int ws) {
        if (sp < 0 || !isStreet(sp / 100) || sp % 100 >= streets.get(sp / 100).size() || ws / 100 < 10 || ws / 100 > 999) {
            return BAD;
        }
        List<int[]> groups = parting(sp / 100, ws);
        if (groups == null) {
            return NOT;
        }
        List<Integer> ahead = new ArrayList<>();
        int first = 0;
        for (int[] g : groups) {
            for (int p = 0; p < g[0]; p++) {
                ahead.add(first);
            }
            first += g[1];
        }
        return ahead.get(sp % 100);
    }

    private static int pieceCost(List<Plot> s, int begin, int end, int price) {
        int[] widths = s.subList(begin, end).stream().mapToInt(Plot::width).sorted().toArray();
        int middle = widths[widths.length % 2 == 1 ? widths.length / 2 : widths.length / 2 - 1];
        return Arrays.stream(widths).map(w -> Math.abs(w - middle)).sum() + (s.get(begin).aside() != 0 ? 0 : price);
    }

    private static void breaks(List<Plot> s, List<Integer> begins, int sum, int price, int pieces, List<Integer> best) {
        int begin = begins.get(begins.size() - 1);
        if (begins.size() == pieces) {
            int whole = s.size() - begin < 2 ? Integer.MAX_VALUE : sum + pieceCost(s, begin, s.size(), price);
            if (whole < best.get(0)) {
                best.clear();
                best.add(whole);
                best.addAll(begins);
            }
            return;
        }
        for (int end = begin + 2; end < s.size(); end++) {
            begins.add(end);
            breaks(s, begins, sum + pieceCost(s, begin, end, price), price, pieces, best);
            begins.remove(begins.size() - 1);
        }
    }

    int pieces(int street, int price, int i) {
        if (!isStreet(street) || price < 0 || price > 9999 || i < -2 || i > 4) {
            return BAD;
        }
        List<Plot> s = streets.get(street);
        if (s.size() < 2) {
            return NOT;
        }
        List<Integer> best = new ArrayList<>(List.of(Integer.MAX_VALUE));
        for (int pieces = 1; pieces <= 5; pieces++) {
            breaks(s, new ArrayList<>(List.of(0)), 0, price, pieces, best);
        }
        return i == -2 ? best.get(0) : i == -1 ? best.size() - 1 : i + 1 < best.size() ? best.get(i + 1) : BAD;
    }

    int bend(int to) {
        if (to < 0 || !isStreet(to / 10) || !isStreet(to % 10) || to / 10 == to % 10) {
            return BAD;
        }
        for (int[] b : bends) {
            if (b[0] == to / 10 && b[1] == to % 10) {
                return BAD;
            }
        }
        bends.add(new int[] {to / 10, to % 10});
        return bends.size();
    }

    int order(int i) {
        if (i < -1) {
            return BAD;
        }
        List<Integer> left = new ArrayList<>();
        for (int s = 0; s < streets.size(); s++) {
            left.add(s);
        }
        List<Integer> came = new ArrayList<>();
        boolean more = true;
        while (more) {
            more = false;
            for (Integer s : left) {
                if (bends.stream().noneMatch(b -> b[0] == s && left.contains(b[1]))) {
                    came.add(s);
                    left.remove(s);
                    more = true;
                    break;
                }
            }
        }
        if (i == -1) {
            return left.isEmpty() ? NOT : left.get(0);
        }
        return i < came.size() ? came.get(i) : NOT;
    }

    int wall(int street, int d, int what) {
        if (!isStreet(street) || what < 0 || what > 2) {
            return BAD;
        }
        List<Plot> s = streets.get(street);
        int[] best = null;
        for (int a = 0; a < s.size(); a++) {
            for (int b = a + 1; b < s.size(); b++) {
                boolean all = s.subList(a, b + 1).stream().allMatch(p -> p.depth() > d);
                boolean alone = (a == 0 || s.get(a - 1).depth() <= d) && (b == s.size() - 1 || s.get(b + 1).depth() <= d);
                int length = at(s, b + 1) - at(s, a);
                if (all && alone && (best == null || length > best[1])) {
                    int gate = a;
                    for (int p = b; p >= a; p--) {
                        gate = s.get(p).depth() <= s.get(gate).depth() ? p : gate;
                    }
                    best = new int[] {a, length, gate};
                }
            }
        }
        return best == null ? NOT : best[what];
    }

    int furrow(int street) {
        if (!isStreet(street)) {
            return BAD;
        }
        List<Integer> ways = streets.get(street).stream().map(Plot::aside).filter(a -> a != 0).toList();
        int turns = 0;
        for (int i = 1; i < ways.size(); i++) {
            turns += ways.get(i) > 0 != ways.get(i - 1) > 0 ? 1 : 0;
        }
        return turns;
    }

    int market(int street, int ab) {
        if (!isRow(street, ab)) {
            return BAD;
        }
        List<Plot> s = streets.get(street);
        return Arrays.stream(widths(s, ab)).sum() * 1000 / at(s, s.size());
    }

    // ---- deeds

    int deed(int no, int feet) {
        if (no < 0 || no / 10 > 7 || no % 10 > 7 || no / 10 == no % 10 || feet < 0 || feet > 999) {
            return BAD;
        }
        return write(new Deed(no / 10, no % 10, feet));
    }

    int stands(int name, int place) {
        return name < 0 || name > 7 || place < 0 || place > 39 ? BAD : write(new Deed(name, -1, place));
    }

    private int write(Deed deed) {
        if (deeds.size() == 10) {
            return FULL;
        }
        deeds.add(deed);
        return deeds.size();
    }

    int burn() {
        int were = deeds.size();
        deeds.clear();
        return were;
    }

    private boolean goes(List<Plot> s, int slack, Integer[] plotOf) {
        for (Deed d : deeds) {
            Integer one = plotOf[d.one()];
            if (d.other() < 0) {
                if (one != null && one != d.told()) {
                    return false;
                }
                continue;
            }
            Integer other = plotOf[d.other()];
            if (one != null && other != null && Math.abs(10 * d.told() - (at(s, one) - at(s, other))) > 10 * slack) {
                return false;
            }
        }
        return true;
    }

    private int ways(List<Plot> s, int slack, int[] names, int next, Integer[] plotOf, Integer[] first) {
        if (next == names.length) {
            if (first[names[0]] == null) {
                System.arraycopy(plotOf, 0, first, 0, 8);
            }
            return 1;
        }
        int ways = 0;
        for (int p = 0; p < s.size(); p++) {
            if (!Arrays.asList(plotOf).contains(p)) {
                plotOf[names[next]] = p;
                if (goes(s, slack, plotOf)) {
                    ways += ways(s, slack, names, next + 1, plotOf, first);
                }
                plotOf[names[next]] = null;
            }
        }
        return ways;
    }

    int all(int street, int slack, int name) {
        boolean[] in = new boolean[8];
        for (Deed d : deeds) {
            in[d.one()] = true;
            if (d.other() >= 0) {
                in[d.other()] = true;
            }
        }
        if (!isStreet(street) || slack < 0 || slack > 99 || name < -1 || name > 7 || name >= 0 && !in[name]) {
            return BAD;
        }
        int[] names = java.util.stream.IntStream.range(0, 8).filter(n -> in[n]).toArray();
        if (names.length > 5) {
            return BIG;
        }
        if (names.length == 0) {
            return STATE;
        }
        Integer[] first = new Integer[8];
        int ways = ways(streets.get(street), slack, names, 0, new Integer[8], first);
        return ways == 0 ? NOT : name < 0 ? Math.min(ways, 1000000) : first[name];
    }

    // ---- laws

    int feed(int n, int v) {
        if (n < 1 || n > 4) {
            return BAD;
        }
        if (tape.length() + n > 120) {
            return FULL;
        }
        for (int i = 0; i < n; i++) {
            tape.append((char) (v & 255));
            v >>>= 8;
        }
        return tape.length();
    }

    /** The FAULT by a machine of two states and a stack of what is open: a bracket with whether it compared, or a sign. */
    static int fault(String text) {
        List<Character> open = new ArrayList<>();
        List<Boolean> compared = new ArrayList<>(List.of(false));
        boolean operandDue = true;
        boolean asked = false;
        int digits = 0;
        for (int i = 0; i < text.length(); i++) {
            char c = text.charAt(i);
            int top = compared.size() - 1;
            if (c >= '0' && c <= '9' && (operandDue || digits > 0 && digits < 4)) {
                digits = operandDue ? 1 : digits + 1;
                operandDue = false;
                closeSigns(open);
            } else if (operandDue && "wndyzfic".indexOf(c) >= 0) {
                digits = 0;
                operandDue = false;
                closeSigns(open);
            } else if (operandDue && "(!-".indexOf(c) >= 0 && open.size() < 6) {
                open.add(c);
                if (c == '(') {
                    compared.add(false);
                }
            } else if (operandDue) {
                return i;
            } else if (c == ')' && top > 0) {
                digits = 0;
                compared.remove(top);
                open.remove(open.size() - 1);
                closeSigns(open);
            } else if ("|&+-*/%".indexOf(c) >= 0) {
                operandDue = true;
                if (c == '|' || c == '&') {
                    compared.set(top, false);
                }
            } else if ("<=>".indexOf(c) >= 0 && !compared.get(top)) {
                operandDue = true;
                compared.set(top, true);
            } else if (top == 0 && (c == ';' || c == '?' && !asked)) {
                operandDue = true;
                compared.set(0, false);
                asked = c == '?';
            } else {
                return i;
            }
        }
        return operandDue || compared.size() > 1 ? text.length() : -1;
    }

    private static void closeSigns(List<Character> open) {
        while (!open.isEmpty() && open.get(open.size() - 1) != '(') {
            open.remove(open.size() - 1);
        }
    }

    int law() {
        if (laws.size() == 4) {
            return FULL;
        }
        String text = tape.toString();
        tape.setLength(0);
        int fault = fault(text);
        if (fault >= 0) {
            return -100 - fault;
        }
        laws.add(text);
        return laws.size() - 1;
    }

    /** Where the last of these signs stands outside of brackets with an operand ahead of it, or -1. */
    private static int lastOf(String text, String signs) {
        int deep = 0;
        for (int i = text.length() - 1; i > 0; i--) {
            char c = text.charAt(i);
            deep += c == ')' ? 1 : c == '(' ? -1 : 0;
            char ahead = text.charAt(i - 1);
            if (deep == 0 && signs.indexOf(c) >= 0 && (Character.isLetterOrDigit(ahead) || ahead == ')')) {
                return i;
            }
        }
        return -1;
    }

    private static int value(String text, java.util.Map<String, Integer> known) {
        for (String signs : new String[] {"|", "&", "<=>", "+-", "*/%"}) {
            int at = lastOf(text, signs);
            if (at >= 0) {
                int a = value(text.substring(0, at), known);
                int b = value(text.substring(at + 1), known);
                return switch (text.charAt(at)) {
                    case '|' -> a != 0 || b != 0 ? 1 : 0;
                    case '&' -> a != 0 && b != 0 ? 1 : 0;
                    case '<' -> a < b ? 1 : 0;
                    case '=' -> a == b ? 1 : 0;
                    case '>' -> a > b ? 1 : 0;
                    case '+' -> a + b;
                    case '-' -> a - b;
                    case '*' -> a * b;
                    case '/' -> b == 0 ? 0 : (int) ((long) a / b);
                    default -> b == 0 ? 0 : (int) ((long) a % b);
                };
            }
        }
        String rest = text.substring(1);
        return switch (text.charAt(0)) {
            case '!' -> value(rest, known) == 0 ? 1 : 0;
            case '-' -> -value(rest, known);
            case '(' -> value(rest.substring(0, rest.length() - 1), known);
            default -> known.containsKey(text) ? known.get(text) : Integer.parseInt(text);
        };
    }

    private static int gives(String law, java.util.Map<String, Integer> known) {
        for (String line : law.split(";")) {
            String[] parts = line.split("\\?");
            if (parts.length == 1 || value(parts[0], known) != 0) {
                return value(parts[parts.length - 1], known);
            }
        }
        return 0;
    }

    private static List<Plot> laid(int nw, String law, int years, int seed) {
        List<Plot> town = new ArrayList<>();
        for (int i = 0; i < nw / 1000; i++) {
            town.add(new Plot(nw % 1000, 100, 0));
        }
        int z = seed;
        for (int y = 0; y < years; y++) {
            z = z * 1103515245 + 12345;
            int i = (z >>> 8) % town.size();
            z = z * 1103515245 + 12345;
            Plot p = town.get(i);
            Plot next = i + 1 < town.size() ? town.get(i + 1) : null;
            int gives = gives(law, java.util.Map.of("w", p.width(), "n", next == null ? 0 : next.width(), "d", p.depth(),
                "y", y, "z", (z >>> 8) % 100, "f", p.width() / (nw % 1000), "i", i, "c", town.size()));
            if (gives == 1 && next != null && p.width() + next.width() <= 999) {
                town.set(i, new Plot(p.width() + next.width(), p.depth(), p.aside()));
                town.remove(i + 1);
            } else if (gives == 2 && p.width() > 1 && town.size() < 40) {
                town.set(i, new Plot(p.width() / 2, p.depth(), p.aside()));
                town.add(i + 1, new Plot((p.width() + 1) / 2, p.depth(), 0));
            } else if (gives == 3 && i > 0) {
                town.set(i, new Plot(p.width(), p.depth(), Math.min(99, p.aside() + 5)));
            }
        }
        return town;
    }

    private static boolean isTown(int nw) {
        return nw / 1000 >= 2 && nw / 1000 <= 39 && nw % 1000 >= 1;
    }

    int town(int nw, int ly, int seed) {
        if (!isTown(nw) || ly < 0 || ly / 100 >= laws.size() || ly % 100 > 60) {
            return BAD;
        }
        if (streets.size() == 6) {
            return FULL;
        }
        streets.add(laid(nw, laws.get(ly / 100), ly % 100, seed));
        return streets.size() - 1;
    }

    private int seeds(List<Plot> s, int nw, int years, int law) {
        int seeds = 0;
        for (int seed = 0; seed < 20; seed++) {
            List<Plot> town = laid(nw, laws.get(law), years, seed);
            seeds += town.size() == s.size() && kinks(town) == kinks(s) ? 1 : 0;
        }
        return seeds;
    }

    int story(int street, int nw, int years, int law) {
        if (!isStreet(street) || !isTown(nw) || years < 0 || years > 60 || law < -1 || law >= laws.size() && law >= 0) {
            return BAD;
        }
        if (laws.isEmpty()) {
            return STATE;
        }
        if (law >= 0) {
            return seeds(streets.get(street), nw, years, law);
        }
        int best = 0;
        for (int other = 1; other < laws.size(); other++) {
            if (seeds(streets.get(street), nw, years, other) > seeds(streets.get(street), nw, years, best)) {
                best = other;
            }
        }
        return best;
    }

    int dig(int so) {
        if (so < 0 || !isStreet(so / 10) || !isStreet(so % 10) || so / 10 == so % 10) {
            return BAD;
        }
        List<Plot> one = streets.get(so / 10);
        List<Plot> other = streets.get(so % 10);
        List<Integer> ends = new ArrayList<>();
        for (int p = 1; p <= other.size(); p++) {
            ends.add(at(other, p));
        }
        for (int p = 1; p < one.size(); p++) {
            if (!ends.contains(at(one, p))) {
                return at(one, p);
            }
        }
        return NOT;
    }

    int undo() {
        if (undos.isEmpty()) {
            return STATE;
        }
        Change c = undos.remove(undos.size() - 1);
        streets.get(c.street()).set(c.plot(), c.before());
        redos.add(c);
        return undos.size();
    }

    int redo() {
        if (redos.isEmpty()) {
            return STATE;
        }
        Change c = redos.remove(redos.size() - 1);
        streets.get(c.street()).set(c.plot(), c.after());
        undos.add(c);
        return redos.size();
    }

    // ---- acts, shelves

    private interface Runs {
        int mark(int body);

        int n();

        default int runs(int x) {
            mark(1);
            return x + n();
        }
    }

    private interface Tells {
        int mark(int body);

        int breaks(int x);

        int leads(int x);

        default int tells(int x) {
            mark(2);
            return breaks(x) - leads(1);
        }
    }

    private class Line implements Runs, Tells {
        private final int n = lines.size();

        @Override
        public int mark(int body) {
            trace.add(body);
            return body;
        }

        @Override
        public int n() {
            return n;
        }

        @Override
        public int breaks(int x) {
            mark(10);
            return runs(x) * 2;
        }

        @Override
        public int leads(int x) {
            mark(11);
            return x ^ n;
        }
    }

    private class Laid extends Line {
        @Override
        public int runs(int x) {
            mark(20);
            return super.runs(x) + 3;
        }
    }

    private class Furrow extends Line {
        @Override
        public int breaks(int x) {
            mark(30);
            return -super.breaks(x);
        }
    }

    private class Wall extends Line {
        @Override
        public int leads(int x) {
            mark(40);
            return super.leads(x) * 3;
        }
    }

    private class Gone extends Wall {
        @Override
        public int leads(int x) {
            mark(50);
            return super.leads(x) - runs(2);
        }

        @Override
        public int tells(int x) {
            mark(51);
            return super.tells(x) ^ 5;
        }
    }

    private class Parted extends Laid {
        @Override
        public int breaks(int x) {
            mark(60);
            return super.breaks(x) + leads(2);
        }
    }

    private class Filled extends Line {
        @Override
        public int runs(int x) {
            mark(70);
            return super.runs(x + 1);
        }
    }

    private class Awry extends Laid {
        @Override
        public int runs(int x) {
            mark(80);
            return super.runs(x) * 2;
        }

        @Override
        public int leads(int x) {
            mark(81);
            return super.leads(x) - 1;
        }
    }

    private static final List<Class<?>> KINDS = List.of(Line.class, Laid.class, Furrow.class, Wall.class, Gone.class,
        Parted.class, Filled.class, Awry.class);

    int body(int kind) {
        if (kind < 0 || kind > 7) {
            return BAD;
        }
        if (lines.size() == 50) {
            return FULL;
        }
        lines.add(switch (kind) {
            case 0 -> new Line();
            case 1 -> new Laid();
            case 2 -> new Furrow();
            case 3 -> new Wall();
            case 4 -> new Gone();
            case 5 -> new Parted();
            case 6 -> new Filled();
            default -> new Awry();
        });
        return lines.size() - 1;
    }

    int act(int body, int act, int x) {
        trace.clear();
        if (body < 0 || body >= lines.size()) {
            return 0;
        }
        Line line = lines.get(body);
        return switch (act) {
            case 0 -> line.runs(x);
            case 1 -> line.breaks(x);
            case 2 -> line.leads(x);
            case 3 -> line.tells(x);
            default -> 0;
        };
    }

    int trace(int i) {
        return i >= 0 && i < Math.min(24, trace.size()) ? trace.get(i) : BAD;
    }

    private static boolean isShelf(int shelf) {
        return shelf >= 0 && shelf < 6;
    }

    int keep(int shelf, int body) {
        if (!isShelf(shelf) || body < -1 || body >= lines.size()) {
            return BAD;
        }
        shelves[shelf] = body < 0 ? null : lines.get(body);
        return 1;
    }

    int row(int shelf, int sort, int n) {
        if (!isShelf(shelf) || sort < 0 || sort > 4 || n > 60) {
            return BAD;
        }
        try {
            shelves[shelf] = switch (sort) {
                case 0 -> new byte[n];
                case 1 -> new short[n];
                case 2 -> new int[n];
                case 3 -> new long[n];
                default -> new boolean[n];
            };
        } catch (NegativeArraySizeException e) {
            return -14;
        }
        return 1;
    }

    int put(int shelf, int i, long v) {
        if (!isShelf(shelf)) {
            return BAD;
        }
        Object row = shelves[shelf];
        if (row == null) {
            return -11;
        }
        try {
            if (row instanceof byte[] b) {
                b[i] = (byte) v;
            } else if (row instanceof short[] s) {
                s[i] = (short) v;
            } else if (row instanceof int[] n) {
                n[i] = (int) v;
            } else if (row instanceof long[] l) {
                l[i] = v;
            } else {
                ((boolean[]) row)[i] = v != 0;
            }
            return 1;
        } catch (ClassCastException e) {
            return -12;
        } catch (ArrayIndexOutOfBoundsException e) {
            return -13;
        }
    }

    long element(int shelf, int i) {
        try {
            Object row = shelves[shelf];
            return row instanceof boolean[] b ? b[i] ? 1 : 0 : java.lang.reflect.Array.getLong(row, i);
        } catch (RuntimeException e) {
            return Long.MIN_VALUE;
        }
    }

    int shift(int shelf, int i, int other, int j, int n) {
        if (!isShelf(shelf) || !isShelf(other)) {
            return BAD;
        }
        try {
            System.arraycopy(shelves[shelf], i, shelves[other], j, n);
            return n;
        } catch (NullPointerException e) {
            return -11;
        } catch (ArrayStoreException e) {
            return -12;
        } catch (IndexOutOfBoundsException e) {
            return -13;
        }
    }

    int taken(int shelf, int k) {
        if (!isShelf(shelf) || k < 0 || k > 7) {
            return BAD;
        }
        if (shelves[shelf] == null) {
            return -11;
        }
        try {
            return KINDS.indexOf(KINDS.get(k).cast(shelves[shelf]).getClass());
        } catch (ClassCastException e) {
            return -12;
        }
    }

    int count(int what) {
        int[] counts = {streets.size(), deeds.size(), laws.size(), tape.length(), bends.size(), undos.size(), lines.size(),
            trace.size()};
        return what < 0 || what > 7 ? BAD : counts[what];
    }
}
