/** Promises 1 to 9, sentence by sentence: each one of the document that names an edge, with what lies on both sides of it. */
public final class StreetSentencesTest {
    private static final Due due = new Due("StreetSentencesTest");
    private static final int BAD = KinkStreet.BAD, FULL = KinkStreet.FULL, VOID = KinkStreet.VOID;

    public static void main(String[] args) {
        newObject();
        street();
        plot();
        plotFullAndBad();
        plotsArguments();
        plotsEnd();
        plotsAreSo();
        mendEdges();
        mendRefusals();
        of();
        misfit();
        misfitErr();
        rod();
        chance();
        chanceDraws();
        chanceParts();
        noSuchStreet();
        due.end();
    }

    private static int da(int aside, int depth) {
        return 1000 * (aside + 99) + depth;
    }

    private static KinkStreet streets(int n) {
        KinkStreet x = new KinkStreet();
        for (int i = 0; i < n; i++) {
            x.street();
        }
        return x;
    }

    private static void newObject() {
        due.promise(1);
        due.says("`KinkStreet()`: No streets.");
        KinkStreet x = new KinkStreet();
        due.is("count(0)", x.count(0), 0);
        due.is("of(0, 0)", x.of(0, 0), VOID);
        due.is("plot in street 0", x.plot(0, 100, da(0, 0)), BAD);
        due.is("furrow(0)", x.furrow(0), BAD);
        due.says("All memory is the class's own.");
        x.street();
        x.body(0);
        x.feed(1, '1');
        x.stands(0, 0);
        x.row(0, 0, 1);
        KinkStreet y = new KinkStreet();
        for (int what = 0; what < 8; what++) {
            due.is("count(" + what + ") of another object", y.count(what), 0);
        }
        due.is("a shelf of another object", y.put(0, 0, 1), -11);
    }

    private static void street() {
        due.promise(2);
        due.says("======== 1 STREETS 0 .. 5, as they come:");
        KinkStreet x = new KinkStreet();
        for (int i = 0; i <= 5; i++) {
            due.is("street()", x.street(), i);
        }
        due.says("`int street()`: A STREET: its number. FULL.");
        due.is("a seventh", x.street(), FULL);
        due.is("an eighth", x.street(), FULL);
        due.is("there are six still", x.count(0), 6);
        due.is("the last one stands", x.of(5, 0), 0);
        due.is("no seventh stands", x.of(6, 0), VOID);
    }

    private static void plot() {
        due.promise(3);
        due.says("WIDTH (1 .. 999 tenths of a foot)");
        KinkStreet x = streets(1);
        due.is("width 1", x.plot(0, 1, da(0, 0)), 0);
        due.is("width 999", x.plot(0, 999, da(0, 0)), 1);
        int[] widths = {0, -1, 1000, Integer.MIN_VALUE, Integer.MAX_VALUE};
        for (int w : widths) {
            due.is("width " + w, x.plot(0, w, da(0, 0)), BAD);
        }
        due.says("DEPTH (0 .. 999 feet)");
        due.is("depth 0", x.plot(0, 10, da(0, 0)), 2);
        due.is("depth 999", x.plot(0, 10, da(0, 999)), 3);
        due.is("depth 0", x.of(0, 202), 0);
        due.is("depth 999", x.of(0, 203), 999);
        due.says("ASIDE (-99 .. 99 tenths: by how much its front lies aside of the one ahead;");
        due.is("aside -99", x.plot(0, 10, 0), 4);
        due.is("aside -99", x.of(0, 304), -99);
        due.is("aside 99", x.plot(0, 10, 198999), 5);
        due.is("aside 99", x.of(0, 305), 99);
        due.is("aside 100", x.plot(0, 10, 199000), BAD);
        due.is("da -1", x.plot(0, 10, -1), BAD);
        due.is("da -1000", x.plot(0, 10, -1000), BAD);
        due.is("the least da", x.plot(0, 10, Integer.MIN_VALUE), BAD);
        due.is("the greatest da", x.plot(0, 10, Integer.MAX_VALUE), BAD);
        due.says("da: 1000 times (ASIDE and 99), and DEPTH (ASIDE of the first one is 0, else BAD).");
        KinkStreet y = streets(1);
        due.is("aside -1", y.plot(0, 10, 98999), BAD);
        due.is("aside 1", y.plot(0, 10, 100000), BAD);
        due.is("none came", y.of(0, 0), 0);
        due.is("aside 0", y.plot(0, 10, 99007), 0);
        due.is("depth", y.of(0, 200), 7);
        due.is("aside", y.of(0, 300), 0);
        due.is("the second one's aside 1", y.plot(0, 10, 100000), 1);
    }

    private static void plotFullAndBad() {
        due.says("each a row of PLOTS 0 .. 39, in order:");
        KinkStreet x = streets(2);
        for (int p = 0; p <= 39; p++) {
            due.is("plot " + p, x.plot(1, 1 + p, da(0, p)), p);
        }
        due.is("the last one's width", x.of(1, 139), 40);
        due.says("`int plot(int street, int width, int da)`: A PLOT comes to a STREET: its place. BAD, FULL: 40.");
        due.is("a 41st", x.plot(1, 10, da(0, 0)), FULL);
        due.is("a 41st, width 0", x.plot(1, 0, da(0, 0)), BAD);
        due.is("a 41st, aside 100", x.plot(1, 10, da(100, 0)), BAD);
        due.is("a 41st, da -1", x.plot(1, 10, -1), BAD);
        due.is("40 still", x.of(1, 0), 40);
        due.is("their widths still", x.of(1, 1), 820);
        due.is("the other one is empty still", x.of(0, 0), 0);
        due.is("no street 2", x.plot(2, 10, da(0, 0)), BAD);
        due.is("no street -1", x.plot(-1, 10, da(0, 0)), BAD);
    }

    /** An object with one empty STREET and on SHELF 0 a ROW of shorts with these elements. */
    private static KinkStreet rowOf(int... values) {
        KinkStreet x = streets(1);
        x.row(0, 1, values.length);
        for (int i = 0; i < values.length; i++) {
            x.put(0, i, values[i]);
        }
        return x;
    }

    private static KinkStreet twentyThrees() {
        int[] values = new int[60];
        for (int i = 0; i < 60; i++) {
            values[i] = i % 3 == 0 ? 1 + i : i % 3 == 1 ? i : 0;
        }
        return rowOf(values);
    }

    private static void plotsArguments() {
        due.promise(4);
        due.says("n (1 .. 20) of them: how many came.");
        KinkStreet x = twentyThrees();
        due.is("n 0", x.plots(0, 0, 0, 0), BAD);
        due.is("n -1", x.plots(0, 0, 0, -1), BAD);
        due.is("n 21", x.plots(0, 0, 0, 21), BAD);
        due.is("none came", x.of(0, 0), 0);
        due.is("n 20", x.plots(0, 0, 0, 20), 20);
        due.is("the last one's width", x.of(0, 119), 58);
        due.is("the last one's depth", x.of(0, 219), 58);
        due.is("n 1, the last three", x.plots(0, 0, 57, 1), 1);
        due.is("n 1 is one", x.plots(0, 0, 0, 1), 1);
        due.says("PLOTS FROM A ROW of shorts, from a place on: by threes WIDTH, DEPTH, ASIDE:");
        x = rowOf(7, 10, 20, 0, 11, 21, -5);
        due.is("from place 1", x.plots(0, 0, 1, 2), 2);
        int[][] facts = {{100, 10}, {200, 20}, {300, 0}, {101, 11}, {201, 21}, {301, -5}};
        for (int[] f : facts) {
            due.is("of(0, " + f[0] + ")", x.of(0, f[0]), f[1]);
        }
        due.says("BAD, -12 (no ROW of shorts; a SHELF that holds nothing is missing).");
        for (int sort = 0; sort < 5; sort++) {
            x.row(1, sort, 6);
            due.is("a row of sort " + sort, x.plots(0, 1, 0, 1), sort == 1 ? 0 : -12);
        }
        x.body(0);
        x.keep(1, 0);
        due.is("a line", x.plots(0, 1, 0, 1), -12);
        due.is("a line, n 0", x.plots(0, 1, 0, 0), BAD);
        due.is("a line, no street", x.plots(1, 1, 0, 1), BAD);
        due.is("shelf 5 holds nothing", x.plots(0, 5, 0, 1), 0);
        due.is("shelf 6", x.plots(0, 6, 0, 1), BAD);
        due.is("shelf -1", x.plots(0, -1, 0, 1), BAD);
        due.is("street -1", x.plots(-1, 0, 0, 1), BAD);
        due.is("two still", x.of(0, 0), 2);
        due.says("it ends where the row is missing,");
        x.keep(0, -1);
        due.is("the row is taken away", x.plots(0, 0, 1, 2), 0);
        due.is("two still", x.of(0, 0), 2);
    }

    private static void plotsEnd() {
        due.says("ends (within a three, too),");
        int[] sizes = {0, 1, 2, 3, 4, 5, 6};
        int[] came = {0, 0, 0, 1, 1, 1, 2};
        for (int k = 0; k < sizes.length; k++) {
            int[] values = new int[sizes[k]];
            for (int i = 0; i < values.length; i++) {
                values[i] = i % 3 == 2 ? 0 : 10;
            }
            KinkStreet x = rowOf(values);
            due.is("a row of " + sizes[k], x.plots(0, 0, 0, 20), came[k]);
            due.is("a row of " + sizes[k] + ": of(0, 0)", x.of(0, 0), came[k]);
        }
        KinkStreet x = rowOf(10, 10, 0, 10, 10, 0);
        int[][] places = {{6, 0}, {5, 0}, {4, 0}, {3, 1}, {Integer.MAX_VALUE, 0}, {Integer.MAX_VALUE - 2, 0}};
        for (int[] p : places) {
            due.is("from place " + p[0], x.plots(0, 0, p[0], 20), p[1]);
        }
        due.is("from a place ahead of the row", x.plots(0, 0, -3, 20), 0);
        due.is("from the least place", x.plots(0, 0, Integer.MIN_VALUE, 20), 0);
        due.says("or the STREET is FULL: those ahead came.");
        x = twentyThrees();
        due.is("20", x.plots(0, 0, 0, 20), 20);
        due.is("18 more", x.plots(0, 0, 0, 18), 18);
        due.is("2 of 3", x.plots(0, 0, 0, 3), 2);
        due.is("40", x.of(0, 0), 40);
        due.is("none more", x.plots(0, 0, 0, 1), 0);
        due.is("none more, as it is full and not as the row is not so", x.plots(0, 0, 1, 20), 0);
        x.row(1, 2, 3);
        due.is("a full street, a row of ints", x.plots(0, 1, 0, 1), -12);
    }

    private static void plotsAreSo() {
        due.says("one is not so,");
        int[][] threes = {{1, 0, 99, 1}, {999, 999, -99, 1}, {0, 0, 0, 0}, {1000, 0, 0, 0}, {-1, 0, 0, 0}, {1, -1, 0, 0},
            {1, 1000, 0, 0}, {1, 0, 100, 0}, {1, 0, -100, 0}, {-32768, 0, 0, 0}, {1, 32767, 0, 0}};
        for (int[] t : threes) {
            KinkStreet x = rowOf(10, 10, 0, t[0], t[1], t[2], 30, 30, 3);
            String row = t[0] + ", " + t[1] + ", " + t[2];
            due.is("10, 10, 0, then " + row + ", then 30, 30, 3", x.plots(0, 0, 0, 3), t[3] == 1 ? 3 : 1);
            due.is(row + ": of(0, 0)", x.of(0, 0), t[3] == 1 ? 3 : 1);
        }
        due.says("the first one's is 0)");
        due.is("aside 1 from a row", rowOf(10, 10, 1).plots(0, 0, 0, 1), 0);
        due.is("aside -1 from a row", rowOf(10, 10, -1).plots(0, 0, 0, 1), 0);
        due.is("aside 0 from a row", rowOf(10, 10, 0).plots(0, 0, 0, 1), 1);
        due.is("aside 1 of the second one", rowOf(10, 10, 0, 10, 10, 1).plots(0, 0, 0, 2), 2);
    }

    private static void mendEdges() {
        due.promise(5);
        due.says("WIDTH (what 0), DEPTH (1), ASIDE (2) of a PLOT (sp: 100 times the STREET, and the PLOT) becomes v: what it was.");
        KinkStreet x = streets(6);
        for (int p = 0; p < 40; p++) {
            x.plot(5, 100 + p, da(0, 50));
        }
        int[][] rows = {{539, 0, 1, 139}, {539, 0, 999, 1}, {539, 1, 0, 50}, {539, 1, 999, 0}, {539, 2, 99, 0},
            {539, 2, -99, 99}, {500, 0, 7, 100}, {500, 1, 8, 50}, {500, 2, 0, 0}};
        for (int[] r : rows) {
            due.is("mend(" + r[0] + ", " + r[1] + ", " + r[2] + ")", x.mend(r[0], r[1], r[2]), r[3]);
            due.is("it is " + r[2] + " then", x.of(5, 100 * (r[1] + 1) + r[0] % 100), r[2]);
        }
        due.is("the one beside it is as it was", x.of(5, 138), 138);
        due.is("the sum is mended", x.of(5, 1), 40 * 100 + 39 * 20 - 139 + 999 - 100 + 7);
        due.is("the kinks are mended", x.of(5, 2), 1);
    }

    private static void mendRefusals() {
        due.says("VOID: BAD.");
        KinkStreet x = streets(2);
        x.plot(0, 10, da(0, 50));
        x.plot(0, 20, da(5, 60));
        int[][] wrong = {{1, 0, 0}, {1, 0, 1000}, {1, 1, -1}, {1, 1, 1000}, {1, 2, -100}, {1, 2, 100}, {0, 2, 1}, {0, 2, -1},
            {1, 3, 5}, {1, -1, 5}, {2, 0, 5}, {99, 0, 5}, {100, 0, 5}, {200, 0, 5}, {-1, 0, 5}, {-99, 0, 5},
            {-100, 0, 5}, {Integer.MIN_VALUE, 0, 5}, {Integer.MAX_VALUE, 0, 5}, {1, Integer.MAX_VALUE, 5},
            {1, 0, Integer.MAX_VALUE}, {1, 1, Integer.MIN_VALUE}, {1, 2, Integer.MIN_VALUE}};
        for (int[] w : wrong) {
            due.is("mend(" + w[0] + ", " + w[1] + ", " + w[2] + ")", x.mend(w[0], w[1], w[2]), VOID);
        }
        int[][] facts = {{100, 10}, {200, 50}, {300, 0}, {101, 20}, {201, 60}, {301, 5}};
        for (int[] f : facts) {
            due.is("of(0, " + f[0] + ") is as it was", x.of(0, f[0]), f[1]);
        }
        due.is("no change", x.count(5), 0);
    }

    private static void of() {
        due.promise(6);
        due.says("Of a STREET: 0 how many PLOTS, 1 the sum of WIDTHS, 2 KINKS; 100, 200, 300, 400 and PLOT: WIDTH, DEPTH, ASIDE, AT. VOID: BAD.");
        KinkStreet x = streets(2);
        for (int p = 0; p < 40; p++) {
            x.plot(0, 999, da(p == 0 ? 0 : -1, 999));
        }
        int[][] right = {{0, 40}, {1, 39960}, {2, 39}, {100, 999}, {139, 999}, {200, 999}, {239, 999}, {300, 0}, {301, -1},
            {339, -1}, {400, 0}, {401, 999}, {439, 38961}};
        for (int[] r : right) {
            due.is("of(0, " + r[0] + ")", x.of(0, r[0]), r[1]);
        }
        int[] wrong = {-1, 3, 39, 99, 140, 199, 240, 299, 340, 399, 440, 499, 500, 539, 600, -100, -400,
            Integer.MIN_VALUE, Integer.MAX_VALUE};
        for (int w : wrong) {
            due.is("of(0, " + w + ")", x.of(0, w), VOID);
        }
        due.is("an empty street: 0", x.of(1, 0), 0);
        due.is("an empty street: 1", x.of(1, 1), 0);
        due.is("an empty street: 2", x.of(1, 2), 0);
        due.is("an empty street: 100", x.of(1, 100), VOID);
        due.is("street 2", x.of(2, 0), VOID);
        due.is("street -1", x.of(-1, 0), VOID);
        due.says("AT: the sum of WIDTHS ahead of a PLOT (the end: of all).");
        due.is("the first one's is 0", x.of(0, 400), 0);
        due.is("all, as a market of all", x.market(0, 39), 1000);
        due.says("KINKS: PLOTS with ASIDE that is not 0.");
        due.is("0, 1, -1, 0, 99: three", Due.aside(0, 1, -1, 0, 99).of(0, 2), 3);
        due.is("none", Due.aside(0, 0).of(0, 2), 0);
    }

    private static void misfit() {
        due.promise(7);
        due.says("RODS r (40 .. 330 tenths) with PARTS k (1 .. 4):");
        KinkStreet x = Due.street(40, 330, 100, 50);
        int[][] right = {{0, 401, 0}, {0, 402, 0}, {0, 404, 0}, {101, 3301, 0}, {101, 3304, 0}};
        for (int[] r : right) {
            due.is("misfit(0, " + r[0] + ", " + r[1] + ")", x.misfit(0, r[0], r[1]), r[2]);
        }
        int[] wrong = {391, 394, 399, 400, 405, 409, 3300, 3305, 3309, 3311, 0, 1, -1, -401, -3301, Integer.MIN_VALUE,
            Integer.MAX_VALUE};
        for (int rk : wrong) {
            due.is("misfit(0, 0, " + rk + ")", x.misfit(0, 0, rk), BAD);
        }
        due.says("MISFIT of PLOTS from one to another one:");
        due.is("the last one alone", x.misfit(0, 303, 1001), 500);
        due.is("the last two", x.misfit(0, 203, 1001), 250);
        due.is("all", x.misfit(0, 3, 1001), 350);
        due.says("---- rods (ab: 100 times the first PLOT and the last one; rk: 10 r and k).");
        int[] rows = {4, 104, 304, 404, 100, 301, 302, 400, -1, -100, 40, 99, 4000, Integer.MIN_VALUE, Integer.MAX_VALUE};
        for (int ab : rows) {
            due.is("misfit(0, " + ab + ", 1001)", x.misfit(0, ab, 1001), BAD);
            due.is("rod(0, " + ab + ", 1, 0)", x.rod(0, ab, 1, 0), BAD);
            due.is("chance(0, " + ab + ", 101, 1)", x.chance(0, ab, 101, 1), BAD);
        }
        due.is("no street", x.misfit(1, 0, 1001), BAD);
        due.is("street -1", x.misfit(-1, 0, 1001), BAD);
        due.is("an empty street", Due.street().misfit(0, 0, 1001), BAD);
    }

    private static void misfitErr() {
        due.says("how far k WIDTH is from the nearest multiple of r that is above 0 (of two the lesser): tenths times k.");
        int[][] errs = {{1, 1, 99}, {10, 1, 90}, {49, 1, 51}, {50, 1, 50}, {99, 1, 1}, {100, 1, 0}, {101, 1, 1}, {149, 1, 49},
            {150, 1, 50}, {151, 1, 49}, {199, 1, 1}, {25, 4, 0}, {24, 4, 4}, {1, 4, 96}, {999, 1, 1}, {999, 4, 4}, {38, 4, 48}};
        for (int[] e : errs) {
            due.is(e[1] + " times " + e[0] + " is " + e[2] + " from a multiple of 100",
                Due.street(e[0]).misfit(0, 0, 1000 + e[1]), 10 * e[2]);
        }
        due.says("the sum of ERRS, times 1000, by (r times how many), cut.");
        due.is("2000 by (130 times 2) is 7.7", Due.street(130, 132).misfit(0, 1, 1301), 7);
        due.is("39000 by 40 is 975", Due.street(1).misfit(0, 0, 401), 975);
        int[] widths = new int[40];
        java.util.Arrays.fill(widths, 1);
        due.is("40 times 329000 by (330 times 40) is 996.9", Due.street(widths).misfit(0, 39, 3301), 996);
    }

    private static void rod() {
        due.promise(8);
        due.says("BEST ROD for k: of all r the one with the least MISFIT; of like ones the greatest r.");
        due.is("330 and 165 go into 660: the greatest", Due.street(660).rod(0, 0, 1, 0), 330);
        due.is("331 goes into 2 times 331, but is no rod: 1 from 3 times 221", Due.street(331).rod(0, 0, 2, 1), 4);
        due.is("40 alone goes into 40", Due.street(40).rod(0, 0, 1, 0), 40);
        due.is("39: 1 from 40", Due.street(39).rod(0, 0, 1, 0), 40);
        due.is("39: its misfit", Due.street(39).rod(0, 0, 1, 1), 25);
        due.is("1: 39 from 40 and 40 from 41 are 975 both", Due.street(1).rod(0, 0, 1, 0), 41);
        due.is("330 goes into 330 and 990", Due.street(330, 990).rod(0, 1, 1, 0), 330);
        due.is("4 times 10 is 40", Due.street(10).rod(0, 0, 4, 0), 40);
        due.says("`int rod(int street, int ab, int k, int what)`: BEST ROD for k: r (what 0), MISFIT (1). BAD.");
        KinkStreet x = Due.street(300, 150);
        due.is("r", x.rod(0, 1, 1, 0), 150);
        due.is("misfit", x.rod(0, 1, 1, 1), 0);
        due.is("k 4", x.rod(0, 1, 4, 0), 300);
        int[][] wrong = {{0, 0, 0, 0}, {0, 0, 5, 0}, {0, 0, -1, 0}, {0, 0, 1, -1}, {0, 0, 1, 2}, {1, 0, 1, 0}, {-1, 0, 1, 0}};
        for (int[] w : wrong) {
            due.is("rod(" + w[0] + ", " + w[1] + ", " + w[2] + ", " + w[3] + ")", x.rod(w[0], w[1], w[2], w[3]), BAD);
        }
        due.is("an empty street", Due.street().rod(0, 0, 1, 0), BAD);
    }

    private static void chance() {
        due.promise(9);
        due.says("BY CHANCE: n times (1 .. 50) by a SEED each WIDTH of these is drawn anew:");
        KinkStreet x = Due.street(100);
        int[] right = {101, 150, 201, 250, 301, 350, 401, 450};
        for (int kn : right) {
            due.is("a rod goes always: chance(0, 0, " + kn + ", 7)", x.chance(0, 0, kn, 7), kn % 100);
        }
        due.says("`int chance(int street, int ab, int kn, int seed)`: BY CHANCE (kn: 100 k and n). BAD.");
        int[] wrong = {100, 151, 199, 200, 251, 400, 451, 1, 50, 99, 500, 501, 550, 0, -1, -101, Integer.MIN_VALUE,
            Integer.MAX_VALUE};
        for (int kn : wrong) {
            due.is("chance(0, 0, " + kn + ", 7)", x.chance(0, 0, kn, 7), BAD);
        }
        due.is("no street", x.chance(1, 0, 101, 7), BAD);
        due.is("street -1", x.chance(-1, 0, 101, 7), BAD);
        due.is("an empty street", Due.street().chance(0, 0, 101, 7), BAD);
    }

    /** Of WIDTHS that k times, drawn anew too, lie below 40 the best rod is 40 or little more: their MISFIT falls with their sum. */
    private static void chanceDraws() {
        due.says("z = z * 1103515245 + 12345 (an int; SEED at first): half of it (cut), and (z >>> 8) % (WIDTH and 1):");
        int[] seeds = {0, 1, -1, 7, 12345, Integer.MIN_VALUE, Integer.MAX_VALUE};
        for (int seed : seeds) {
            for (int width = 1; width <= 12; width++) {
                KinkStreet x = Due.street(200, width);
                due.is("width " + width + ", seed " + seed, x.chance(0, 101, 150, seed), asLittle(seed, 50, width));
                due.is("width " + width + ", k 2", x.chance(0, 101, 250, seed), asLittle(seed, 50, width));
            }
            KinkStreet x = Due.street(3, 11, 8, 5);
            due.is("three widths, seed " + seed, x.chance(0, 2, 150, seed), asLittle(seed, 50, 3, 11, 8));
            due.is("the last three", x.chance(0, 103, 149, seed), asLittle(seed, 49, 11, 8, 5));
        }
        due.says("how often the BEST ROD's MISFIT is as little as that of the WIDTHS, or less.");
        due.is("1 drawn anew is 0 or 1: as little as often as 1", Due.street(1).chance(0, 0, 150, 3), asLittle(3, 50, 1));
        due.is("2 drawn anew is 1, 2 or 3: less counts too", Due.street(2).chance(0, 0, 150, 3), asLittle(3, 50, 2));
    }

    private static int asLittle(int seed, int times, int... widths) {
        int z = seed;
        int often = 0;
        for (int t = 0; t < times; t++) {
            int sum = 0;
            int drawn = 0;
            for (int w : widths) {
                z = z * 1103515245 + 12345;
                sum += w;
                drawn += w / 2 + (z >>> 8) % (w + 1);
            }
            often += (40 * widths.length - drawn) * 1000 / (40 * widths.length) <= (40 * widths.length - sum) * 1000
                / (40 * widths.length) ? 1 : 0;
        }
        return often;
    }

    /** One WIDTH of 30: by its halves it makes 60, for which there is a rod, as for every drawn one from 20 on. */
    private static void chanceParts() {
        due.says("(kn: 100 k and n). BAD.");
        for (int seed = 0; seed < 60; seed++) {
            int drawn = 15 + (seed * 1103515245 + 12345 >>> 8) % 31;
            KinkStreet x = Due.street(30);
            due.is("k 1, " + drawn + " drawn", x.chance(0, 0, 101, seed), drawn >= 30 ? 1 : 0);
            due.is("k 2, " + drawn + " drawn", x.chance(0, 0, 201, seed), drawn >= 20 ? 1 : 0);
            due.is("k 3, " + drawn + " drawn", x.chance(0, 0, 301, seed), 1);
            due.is("k 4, " + drawn + " drawn", x.chance(0, 0, 401, seed), 1);
        }
    }

    /** Every call that a STREET's number is told to, with such as are none yet, though there may be as many. */
    private static void noSuchStreet() {
        due.promise(6);
        due.says("BAD (-1): no such number, or it is not as said;");
        for (int streets = 0; streets < 6; streets++) {
            KinkStreet x = streets(streets);
            Due.law(x, "0");
            x.stands(0, 0);
            x.row(0, 1, 3);
            x.put(0, 0, 10);
            for (int s = streets; s <= 7; s++) {
                String of = "street " + s + " of " + streets + ": ";
                due.is(of + "plot", x.plot(s, 10, 99000), BAD);
                due.is(of + "plots", x.plots(s, 0, 0, 1), BAD);
                due.is(of + "mend", x.mend(100 * s, 0, 5), VOID);
                due.is(of + "of", x.of(s, 0), VOID);
                due.is(of + "misfit", x.misfit(s, 0, 1001), BAD);
                due.is(of + "rod", x.rod(s, 0, 1, 0), BAD);
                due.is(of + "chance", x.chance(s, 0, 101, 1), BAD);
                due.is(of + "first", x.first(s, 1000, 0), BAD);
                due.is(of + "led", x.led(100 * s, 1000), BAD);
                due.is(of + "pieces", x.pieces(s, 0, -2), BAD);
                due.is(of + "bend", x.bend(10 * s), BAD);
                due.is(of + "bend, the other one", x.bend(s), BAD);
                due.is(of + "wall", x.wall(s, 0, 0), BAD);
                due.is(of + "furrow", x.furrow(s), BAD);
                due.is(of + "market", x.market(s, 0), BAD);
                due.is(of + "all", x.all(s, 0, -1), BAD);
                due.is(of + "story", x.story(s, 2001, 0, 0), BAD);
                due.is(of + "dig", x.dig(10 * s), BAD);
                due.is(of + "dig, the other one", x.dig(s), BAD);
            }
            due.is("none came", x.count(0), streets);
            due.is("none bends", x.count(4), 0);
        }
    }
}
