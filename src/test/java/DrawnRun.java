import java.util.ArrayList;
import java.util.List;
import java.util.Random;

/** A run of as many calls as an object is used for, drawn by a seed: all promises, right and wrong numbers mixed. */
final class DrawnRun {
    private static final String SIGNS = "wndyzfic0123456789!-()|&<=>+*/%?; ";

    /** LAWS by which much comes to pass. */
    private static final String[] TOWN_LAWS = {"z<30?1;z<60&w>20?2;3", "z<50?2;3", "f>1?2;z<40?1;3", "y%3+1", "i%2*2+1",
        "n<w?2;n>w?1;3", "c<8?2;c>12?1;3"};

    final List<Call> calls = new ArrayList<>();
    final List<Long> due = new ArrayList<>();
    private final Random random;
    private final Model m = new Model();
    private final boolean shortStreets;
    private final int widthUnit;

    DrawnRun(long seed) {
        random = new Random(seed);
        shortStreets = random.nextInt(4) > 0;
        widthUnit = 20 + random.nextInt(150);
        while (calls.size() < Call.MOST) {
            step();
        }
    }

    private void ask(String name, long... arguments) {
        if (calls.size() < Call.MOST) {
            Call call = Call.of(name, arguments);
            calls.add(call);
            due.add(call.on(m));
        }
    }

    private int below(int n) {
        return random.nextInt(n);
    }

    /** Mostly a number from 0 to n less 1, now and then one beside it or far from it. */
    private int near(int n) {
        switch (below(40)) {
            case 0: return -1 - below(3);
            case 1: return n + below(3);
            case 2: return random.nextInt();
            default: return n <= 0 ? 0 : below(n);
        }
    }

    private int streetNo() {
        return near(Math.max(1, m.count(0)));
    }

    private int size(int street) {
        return Math.max(0, m.of(street, 0));
    }

    private void step() {
        int what = below(100);
        if (what < 25) {
            streetStep();
        } else if (what < 37) {
            rodStep();
        } else if (what < 55) {
            partingStep();
        } else if (what < 67) {
            deedStep();
        } else if (what < 80) {
            townStep();
        } else {
            shelfStep();
        }
    }

    private int width() {
        int w = widthUnit * (1 + below(5)) / (1 + below(3)) + below(5) - 2;
        return below(30) == 0 ? near(1000) : Math.max(1, Math.min(999, w));
    }

    private void streetStep() {
        int s = streetNo();
        switch (below(8)) {
            case 0:
                if (below(3) == 0) {
                    ask("street");
                }
                break;
            case 1:
            case 2:
            case 3: {
                if (shortStreets && size(s) >= 9) {
                    break;
                }
                int aside = size(s) == 0 || below(2) == 0 ? 0 : near(199) - 99;
                int w = width();
                int da = below(40) == 0 ? near(200000) : 1000 * (aside + 99) + (below(3) == 0 ? near(1000) : 90 + below(4));
                ask("plot", s, w, da);
                break;
            }
            case 4: {
                int sp = 100 * s + near(size(s) + 1);
                int fact = near(3);
                int v = fact == 0 ? width() : fact == 1 ? near(1000) : below(3) == 0 ? 0 : near(199) - 99;
                ask("mend", sp, fact, v);
                break;
            }
            case 5:
                ask("undo");
                break;
            case 6:
                ask("redo");
                break;
            default: {
                int of = below(2) == 0 ? near(3) : 100 * near(5) + near(size(s) + 1);
                ask("of", s, of);
                break;
            }
        }
    }

    private int rowOf(int s) {
        int a = near(size(s));
        int b = Math.max(a, near(size(s)));
        return below(30) == 0 ? random.nextInt() : 100 * a + b;
    }

    private void rodStep() {
        int s = streetNo();
        int ab = rowOf(s);
        int k = 1 + near(4);
        switch (below(5)) {
            case 0:
                ask("misfit", s, ab, 10 * (40 + near(291)) + k);
                break;
            case 1:
                ask("rod", s, ab, k, near(2));
                break;
            case 2: {
                int kn = 100 * k + (below(4) == 0 ? near(52) : 1 + below(4));
                int seed = random.nextInt();
                ask("chance", s, ab, kn, seed);
                break;
            }
            case 3:
                ask("market", s, ab);
                break;
            default:
                ask("furrow", s);
                break;
        }
    }

    private void partingStep() {
        int s = streetNo();
        switch (below(7)) {
            case 0:
            case 1: {
                int ws = below(20) == 0 ? near(101000) : 100 * (widthUnit + below(9) - 4) + below(widthUnit > 99 ? 50 : 20);
                if (size(s) > 12) {
                    break;
                }
                ask("first", s, ws, near(3));
                ask("led", 100 * s + near(size(s) + 1), ws);
                break;
            }
            case 2:
            case 3: {
                if (size(s) > 20) {
                    break;
                }
                int price = below(3) == 0 ? near(10000) : below(200);
                for (int i = -2; i < 3; i++) {
                    ask("pieces", s, price, below(5) == 0 ? near(8) - 2 : i);
                }
                break;
            }
            case 4: {
                int d = below(10) == 0 ? random.nextInt() : 88 + below(6);
                ask("wall", s, d, near(3));
                break;
            }
            case 5:
                if (below(3) == 0) {
                    ask("bend", 10 * s + Math.max(0, near(6)));
                }
                break;
            default:
                ask("order", near(8) - 1);
                break;
        }
    }

    /** What a DEED may well have said of two PLOTS of the STREET, so that some can be put together. */
    private int feetBetween(int s) {
        int a = below(size(s) + 1);
        int b = below(size(s) + 1);
        return Math.min(999, Math.max(0, (m.of(s, 400 + Math.max(a, b)) - m.of(s, 400 + Math.min(a, b))) / 10));
    }

    private void deedStep() {
        int s = streetNo();
        int names = 2 + below(7);
        switch (below(6)) {
            case 0: {
                int no = below(20) == 0 ? near(90) : 10 * below(names) + below(names);
                int feet = below(5) == 0 ? near(1000) : below(3) == 0 ? below(60) : feetBetween(s);
                ask("deed", no, feet);
                break;
            }
            case 1:
                ask("stands", near(8), below(2) == 0 ? near(40) : below(8));
                break;
            case 2:
                if (below(2) == 0) {
                    ask("burn");
                }
                break;
            default: {
                if (size(s) > 16) {
                    break;
                }
                ask("all", s, below(3) == 0 ? near(100) : below(12), below(3) == 0 ? -1 : near(8));
                break;
            }
        }
    }

    private String expression(int level, int open) {
        String[] chains = {"|", "&", "<=>", "+-", "*/%"};
        if (level == 5) {
            int kind = below(open < 6 ? 12 : 7);
            if (kind < 4) {
                return "" + "wndyzfic".charAt(below(8));
            }
            if (kind < 9) {
                return "" + below(below(2) == 0 ? 4 : below(2) == 0 ? 101 : 10000);
            }
            return kind == 9 ? "!" + expression(5, open + 1) : kind == 10 ? "-" + expression(5, open + 1)
                : "(" + expression(0, open + 1) + ")";
        }
        StringBuilder text = new StringBuilder(expression(level + 1, open));
        for (int links = 0; links < (level == 2 ? 1 : 3) && below(open == 0 ? 3 : 4) == 0; links++) {
            text.append(chains[level].charAt(below(chains[level].length()))).append(expression(level + 1, open));
        }
        return text.toString();
    }

    private String text() {
        if (below(3) == 0) {
            return TOWN_LAWS[below(TOWN_LAWS.length)];
        }
        StringBuilder text = new StringBuilder();
        int lines = 1 + below(4);
        for (int line = 0; line < lines; line++) {
            text.append(line == 0 ? "" : ";");
            text.append(below(4) > 0 ? expression(0, 0) + "?" + (below(4) > 0 ? "" + below(4) : expression(0, 0))
                : expression(0, 0));
        }
        if (below(3) == 0) {
            int at = below(text.length());
            int kind = below(3);
            if (kind == 0) {
                text.setLength(at);
            } else if (kind == 1) {
                text.insert(at, SIGNS.charAt(below(SIGNS.length())));
            } else {
                text.setCharAt(at, below(20) == 0 ? (char) below(256) : SIGNS.charAt(below(SIGNS.length())));
            }
        }
        return text.toString();
    }

    private void feed(String text) {
        int at = 0;
        while (at < text.length()) {
            int n = Math.min(text.length() - at, 1 + below(4));
            int v = random.nextInt();
            for (int i = 0; i < n; i++) {
                v = v & ~(255 << 8 * i) | text.charAt(at + i) << 8 * i;
            }
            ask("feed", n, v);
            at += n;
        }
    }

    private void townStep() {
        int nw = 1000 * (2 + near(shortStreets ? 7 : 38)) + (below(10) == 0 ? near(1000) : widthUnit);
        int years = below(4) == 0 ? near(61) : below(12);
        switch (below(6)) {
            case 0:
            case 1: {
                if (m.count(2) < 4 || below(10) == 0) {
                    String text = text();
                    if (text.length() < 100 || below(10) == 0) {
                        feed(text);
                        ask("law");
                    }
                }
                break;
            }
            case 2:
                if (below(20) == 0) {
                    ask("feed", near(5), random.nextInt());
                }
                break;
            case 3: {
                int ly = 100 * near(m.count(2)) + years;
                int seed = random.nextInt();
                if (below(3) == 0) {
                    int town = m.count(0);
                    ask("town", nw, ly, seed);
                    for (int look = 0; look < 10 && m.count(0) > town; look++) {
                        ask("of", town, 100 * (1 + below(4)) + below(size(town)));
                    }
                }
                break;
            }
            case 4: {
                int s = streetNo();
                int law = near(m.count(2) + 1) - 1;
                int years2 = below(3) == 0 ? years : below(6);
                int nw2 = below(2) == 0 && size(s) > 1 ? 1000 * size(s) + 100 : nw;
                ask("story", s, nw2, years2, law);
                break;
            }
            default:
                ask("dig", below(20) == 0 ? near(70) : 10 * below(6) + below(6));
                break;
        }
    }

    private long value() {
        switch (below(6)) {
            case 0: return random.nextLong();
            case 1: return random.nextInt();
            case 2: return 0;
            default: return below(200);
        }
    }

    private void shelfStep() {
        int shelf = below(10) == 0 ? near(6) : below(3);
        int place = near(below(2) == 0 ? 12 : 60);
        switch (below(12)) {
            case 0:
                if (below(2) == 0) {
                    ask("body", near(8));
                }
                break;
            case 1:
            case 2:
                ask("act", near(m.count(6)), near(4), below(2) == 0 ? below(20) : random.nextInt());
                for (int i = 0; i < 5; i++) {
                    ask("trace", near(12));
                }
                break;
            case 3:
                ask("keep", shelf, near(m.count(6) + 1) - 1);
                break;
            case 4:
                ask("row", shelf, below(2) == 0 ? 1 : near(5), near(below(2) == 0 ? 12 : 61));
                break;
            case 5:
            case 6:
                ask("put", shelf, place, value());
                break;
            case 7:
                ask("element", shelf, place);
                break;
            case 8:
                ask("shift", shelf, place, near(3), near(12), near(8));
                break;
            case 9:
                ask("taken", shelf, near(8));
                break;
            case 10:
                plotsStep(shelf);
                break;
            default:
                ask("count", near(8));
                break;
        }
    }

    private void plotsStep(int shelf) {
        int s = streetNo();
        if (shortStreets && size(s) > 6) {
            return;
        }
        for (int i = 0; i < 6; i++) {
            int v = i % 3 == 0 ? width() : i % 3 == 1 ? near(1000) : size(s) == 0 && i < 3 ? 0 : near(199) - 99;
            ask("put", shelf, i, v);
        }
        int from = below(5) == 0 ? near(12) : 0;
        int n = below(3) == 0 ? near(21) : 1 + below(2);
        if (shortStreets && n > 3) {
            n = 3;
        }
        ask("plots", s, shelf, from, n);
    }
}
