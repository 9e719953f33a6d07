/** Promises 10 to 17, sentence by sentence: each one of the document that names an edge, with what lies on both sides of it. */
public final class PartingSentencesTest {
    private static final Due due = new Due("PartingSentencesTest");
    private static final int BAD = KinkStreet.BAD, NOT = KinkStreet.NOT;

    public static void main(String[] args) {
        firstArguments();
        firstGroups();
        firstBest();
        led();
        piecesParting();
        piecesBest();
        piecesArguments();
        bend();
        order();
        ring();
        wall();
        gate();
        furrow();
        market();
        due.end();
    }

    private static void firstArguments() {
        due.promise(10);
        due.says("FIRST PLOTS of a WIDTH W (10 .. 999) with SLACK (0 .. 99):");
        KinkStreet x = Due.street(10);
        int[][] right = {{1000, 0}, {1099, 0}, {1100, NOT}, {1101, 0}, {99900, NOT}, {99999, NOT}};
        for (int[] r : right) {
            due.is("10 by " + r[0], x.first(0, r[0], 0), r[1]);
            due.is("led, 10 by " + r[0], x.led(0, r[0]), r[1]);
        }
        due.is("999 by 999", Due.street(999).first(0, 99900, 0), 0);
        due.is("900 by 999 and 99", Due.street(900).first(0, 99999, 0), 0);
        int[] wrong = {999, 900, 99, 0, -1, -1000, 100000, 100099, Integer.MIN_VALUE, Integer.MAX_VALUE};
        for (int ws : wrong) {
            due.is("first by " + ws, x.first(0, ws, 0), BAD);
            due.is("led by " + ws, x.led(0, ws), BAD);
        }
        due.says("FIRST PLOTS: JOININGS AND PARTINGS (what 0), GROUPS (1), first ones in all (2). BAD; NOT.");
        x = Due.street(50, 50, 300, 100);
        int[] want = {3, 3, 5};
        for (int what = 0; what < 3; what++) {
            due.is("what " + what, x.first(0, 10000, what), want[what]);
            due.is("none, what " + what, x.first(0, 9000, what), NOT);
        }
        due.is("what 3", x.first(0, 10000, 3), BAD);
        due.is("what -1", x.first(0, 10000, -1), BAD);
        due.is("what 3, where there is none", x.first(0, 9000, 3), BAD);
        due.is("no street", x.first(1, 10000, 0), BAD);
        due.is("street -1", x.first(-1, 10000, 0), BAD);
    }

    private static void firstGroups() {
        due.says("a STREET is parted into GROUPS, each of 1 to 6 PLOTS one behind the other,");
        due.is("1", Due.street(100).first(0, 10000, 0), 0);
        due.is("6 make one", Due.street(10, 20, 30, 15, 15, 10).first(0, 10000, 1), 1);
        due.is("7 don't", Due.street(10, 20, 30, 15, 10, 5, 10).first(0, 10000, 1), NOT);
        due.is("6 and 1", Due.street(10, 20, 30, 15, 15, 10, 100).first(0, 10000, 1), 2);
        due.is("no plots: no groups", Due.street().first(0, 10000, 1), 0);
        due.says("for each so many first ones f (1 to 6):");
        due.is("1 first one", Due.street(101).first(0, 10101, 2), 1);
        due.is("6 first ones", Due.street(600).first(0, 10000, 2), 6);
        due.is("6 cost 5", Due.street(600).first(0, 10000, 0), 5);
        due.is("7 are too many", Due.street(700).first(0, 10000, 2), NOT);
        due.is("0 are too few: 9 by 20", Due.street(9).first(0, 2010, 2), NOT);
        due.says("the sum of the GROUP's WIDTHS differs from f W by f SLACK at most.");
        int[][] widths = {{89, NOT}, {90, 1}, {110, 1}, {111, NOT}, {179, NOT}, {180, 2}, {220, 2}, {221, NOT}, {269, NOT},
            {270, 3}, {330, 3}, {331, NOT}, {359, NOT}, {360, 4}, {440, 4}, {449, NOT}, {450, 5}, {550, 5}, {551, 6},
            {660, 6}, {661, NOT}};
        for (int[] w : widths) {
            due.is(w[0] + " by 100 and 10", Due.street(w[0]).first(0, 10010, 2), w[1]);
        }
        due.is("100 by 100 and 0", Due.street(100).first(0, 10000, 2), 1);
        due.is("99 by 100 and 0", Due.street(99).first(0, 10000, 2), NOT);
        due.is("101 by 100 and 0", Due.street(101).first(0, 10000, 2), NOT);
        due.is("1 by 100 and 99", Due.street(1).first(0, 10099, 2), 1);
        due.is("1 by 101 and 99", Due.street(1).first(0, 10199, 2), NOT);
    }

    private static void firstBest() {
        due.says("A GROUP of p PLOTS costs (p less 1) and (f less 1):");
        due.is("6 plots of 600", Due.street(70, 80, 90, 120, 115, 125).first(0, 10000, 0), 10);
        due.is("2 plots of 100 and 1 of 300", Due.street(40, 60, 300).first(0, 10000, 0), 3);
        due.is("nothing changed", Due.street(100, 100, 100).first(0, 10000, 0), 0);
        due.says("The fewest JOININGS AND PARTINGS: the least sum of costs; of like ones the fewest GROUPS; NOT: none.");
        KinkStreet x = Due.street(146, 132, 32, 85, 217, 149, 38, 144);
        due.is("3 or 4 groups cost 14", x.first(0, 7308, 0), 14);
        due.is("3", x.first(0, 7308, 1), 3);
        due.is("12 first ones, where 4 groups have 14", x.first(0, 7308, 2), 12);
        x = Due.street(34, 181, 83, 51, 218, 161, 150, 42, 74, 63, 17);
        due.is("4 or 5 groups cost 16", x.first(0, 7809, 0), 16);
        due.is("4", x.first(0, 7809, 1), 4);
        due.is("13 first ones, where 5 groups have 15", x.first(0, 7809, 2), 13);
        int[] widths = new int[40];
        java.util.Arrays.fill(widths, 10);
        x = Due.street(widths);
        due.is("40 plots by 60: six groups of 6, one of 4 can't be", x.first(0, 6000, 0), NOT);
        due.is("40 plots by 20: pairs", x.first(0, 2000, 1), 20);
        due.is("40 plots by 20: the last one's", x.led(39, 2000), 19);
        due.is("a beginning alone is not enough", Due.street(100, 100, 37).first(0, 10000, 0), NOT);
        due.is("an end alone is not enough", Due.street(37, 100, 100).first(0, 10000, 0), NOT);
    }

    private static void led() {
        due.promise(11);
        due.says("LED: to which first plot (from 0) the first GROUP, the second, .. begins:");
        KinkStreet x = Due.street(300, 50, 50, 100, 200);
        int[] want = {0, 3, 3, 4, 5};
        for (int p = 0; p < want.length; p++) {
            due.is("led(" + p + ")", x.led(p, 10000), want[p]);
        }
        due.says("(by the parting that takes, PLOT by PLOT from the beginning, the GROUP with the fewest PLOTS, then the least f, of those that are best).");
        // By W 85 and SLACK 25 (60 to 110): 30 and 40, 30 and 70; or 30, 40 and 30, 70 alone: both cost 2 in two GROUPS.
        x = Due.street(30, 40, 30, 70);
        int[] fewest = {0, 0, 1, 1};
        for (int p = 0; p < fewest.length; p++) {
            due.is("led(" + p + ") where two are best", x.led(p, 8525), fewest[p]);
        }
        x = Due.street(146, 132, 32, 85, 217, 149, 38, 144);
        int[] threeGroups = {0, 0, 0, 0, 5, 5, 5, 10};
        for (int p = 0; p < threeGroups.length; p++) {
            due.is("led(" + p + ") by the fewest groups", x.led(p, 7308), threeGroups[p]);
        }
        due.says("`int led(int sp, int ws)`: LED of a PLOT. BAD; NOT.");
        x = new KinkStreet();
        for (int s = 0; s < 6; s++) {
            x.street();
        }
        for (int p = 0; p < 40; p++) {
            x.plot(5, 100, 99000);
        }
        x.plot(4, 37, 99000);
        due.is("the first of street 5", x.led(500, 10000), 0);
        due.is("the last of street 5", x.led(539, 10000), 39);
        due.is("none", x.led(400, 10000), NOT);
        int[] wrong = {540, 599, 600, 401, 499, 0, 100, -1, -99, -100, Integer.MIN_VALUE, Integer.MAX_VALUE};
        for (int sp : wrong) {
            due.is("led(" + sp + ")", x.led(sp, 10000), BAD);
        }
    }

    private static void parted(String what, KinkStreet x, int price, int sum, int... begins) {
        due.is(what + ": the sum", x.pieces(0, price, -2), sum);
        due.is(what + ": how many", x.pieces(0, price, -1), begins.length);
        for (int i = 0; i < begins.length; i++) {
            due.is(what + ": begin " + i, x.pieces(0, price, i), begins[i]);
        }
        due.is(what + ": none such", x.pieces(0, price, begins.length), BAD);
    }

    private static void piecesParting() {
        due.promise(12);
        due.says("PIECES: a STREET is parted into 1 to 5 PIECES, each of 2 PLOTS and more:");
        parted("two plots", Due.street(5, 9), 0, 4, 0);
        parted("three plots", Due.street(5, 5, 9), 0, 4, 0);
        parted("three plots", Due.street(9, 5, 5), 0, 4, 0);
        parted("four plots", Due.street(5, 5, 9, 9), 0, 0, 0, 2);
        parted("1 alone, then 3, 5, 5, would be 2 too", Due.street(1, 3, 5, 5), 0, 2, 0, 2);
        parted("5, 5, 3 and then 1 alone would be 2 too", Due.street(5, 5, 3, 1), 0, 2, 0, 2);
        parted("five pieces", Due.street(1, 1, 9, 9, 1, 1, 9, 9, 1, 1), 0, 0, 0, 2, 4, 6, 8);
        parted("six pieces would be 0", Due.street(1, 1, 2, 2, 4, 4, 8, 8, 16, 16, 32, 32), 0, 2, 0, 4, 6, 8, 10);
        due.says("a PIECE costs the sum of sizes of its WIDTHS less their MIDDLE one (the lower of two, by size),");
        parted("falling", Due.street(9, 5, 1), 0, 8, 0);
        parted("rising", Due.street(1, 5, 9), 0, 8, 0);
        parted("the middle one first", Due.street(5, 9, 1), 0, 8, 0);
        parted("the middle one, not the mean", Due.street(1, 1, 100), 9, 108, 0);
        parted("four: 1 and 9, 2 and 8", Due.street(9, 2, 8, 1), 1, 15, 0);
        parted("999 and 1", Due.street(999, 1), 0, 998, 0);
        due.says("and a PRICE (0 .. 9999 told);");
        parted("price 0", Due.street(5, 5, 9, 9), 0, 0, 0, 2);
        parted("price 7", Due.street(5, 5, 9, 9), 7, 14, 0, 2);
        parted("price 9999", Due.street(5, 5, 9, 9), 9999, 10007, 0);
        KinkStreet x = Due.street(5, 5, 9, 9);
        int[] prices = {-1, 10000, Integer.MIN_VALUE, Integer.MAX_VALUE};
        for (int price : prices) {
            due.is("price " + price, x.pieces(0, price, -2), BAD);
        }
        due.says("but a break at a PLOT with a KINK costs 0 to begin a PIECE.");
        int[] asides = {1, -1, 99, -99};
        for (int a : asides) {
            x = Due.street(5, 5, 9, 9);
            x.mend(2, 2, a);
            parted("a kink of " + a + " at the break", x, 9999, 9999, 0, 2);
        }
        x = Due.street(5, 5, 9, 9);
        x.mend(1, 2, 1);
        parted("a kink beside the break", x, 9999, 10007, 0);
    }

    private static void piecesBest() {
        due.says("The least sum; how many PIECES; where the i-th begins (of like ones the fewest PIECES, then the earliest breaks, the first one first).");
        parted("one and two are 8", Due.street(5, 5, 9, 9), 8, 16, 0);
        parted("two are less by 1", Due.street(5, 5, 9, 9), 7, 14, 0, 2);
        parted("one is less by 1", Due.street(5, 5, 9, 9), 9, 17, 0);
        parted("two are less", Due.street(5, 5, 10, 10), 8, 16, 0, 2);
        parted("all alike", Due.street(7, 7, 7, 7, 7, 7, 7, 7, 7, 7), 0, 0, 0);
        KinkStreet kinked = Due.aside(0, 0, 5, 0, 5, 0);
        parted("a kink costs 0, one piece is the fewest", kinked, 6, 6, 0);
        parted("7 goes ahead or behind: the earlier break", Due.street(5, 5, 7, 9, 9), 0, 2, 0, 2);
        parted("breaks 2 and 7, or 3 and 6: the first one first", Due.street(3, 3, 5, 9, 1, 9, 5, 3, 3), 0, 12, 0, 2, 7);
        parted("3 and 8, 4 and 7, 5 and 8", Due.street(5, 7, 7, 3, 9, 5, 9, 5, 1, 3), 0, 14, 0, 3, 8);
        int[] widths = new int[40];
        java.util.Arrays.fill(widths, 999);
        parted("40 plots", Due.street(widths), 9999, 9999, 0);
        for (int p = 0; p < 38; p++) {
            widths[p] = 1 + p / 10;
        }
        parted("40 plots, the last two apart", Due.street(widths), 1, 5, 0, 10, 20, 30, 38);
        due.says("NOT: fewer than 2 PLOTS.");
        for (int i = -2; i < 0; i++) {
            due.is("no plots", Due.street().pieces(0, 0, i), NOT);
            due.is("one plot", Due.street(5).pieces(0, 0, i), NOT);
            due.is("two plots", Due.street(5, 5).pieces(0, 0, i), i == -2 ? 0 : 1);
        }
    }

    private static void piecesArguments() {
        due.says("PIECES: the sum (i -2), how many (i -1), where the i-th begins. BAD (also none such); NOT.");
        KinkStreet x = Due.street(5, 5, 9, 9);
        int[][] asked = {{-2, 0}, {-1, 2}, {0, 0}, {1, 2}, {2, BAD}, {3, BAD}, {4, BAD}, {5, BAD}, {-3, BAD},
            {Integer.MIN_VALUE, BAD}, {Integer.MAX_VALUE, BAD}};
        for (int[] a : asked) {
            due.is("i " + a[0], x.pieces(0, 0, a[0]), a[1]);
        }
        x = Due.street(1, 1, 9, 9, 1, 1, 9, 9, 1, 1);
        due.is("i 4 of five", x.pieces(0, 0, 4), 8);
        due.is("i 5 of five", x.pieces(0, 0, 5), BAD);
        due.is("no street", x.pieces(1, 0, -2), BAD);
        due.is("street -1", x.pieces(-1, 0, -2), BAD);
        due.is("one plot, i -3", Due.street(5).pieces(0, 0, -3), BAD);
        due.is("one plot, price 10000", Due.street(5).pieces(0, 10000, -2), BAD);
    }

    private static KinkStreet streets(int n, int... bends) {
        KinkStreet x = new KinkStreet();
        for (int i = 0; i < n; i++) {
            x.street();
        }
        for (int to : bends) {
            x.bend(to);
        }
        return x;
    }

    private static void bend() {
        due.promise(13);
        due.says("One STREET BENDS to another one: how many such there are. BAD (one and the same, told).");
        KinkStreet x = streets(6);
        due.is("0 to 1", x.bend(1), 1);
        due.is("1 to 0 is another one", x.bend(10), 2);
        due.is("5 to 4", x.bend(54), 3);
        due.is("0 to 1 is told", x.bend(1), BAD);
        due.is("5 to 4 is told", x.bend(54), BAD);
        int[] wrong = {0, 11, 22, 33, 44, 55, 6, 16, 9, 60, 61, 100, 101, -1, -10, -12, Integer.MIN_VALUE,
            Integer.MAX_VALUE};
        for (int to : wrong) {
            due.is("bend(" + to + ")", x.bend(to), BAD);
        }
        due.is("three", x.count(4), 3);
        KinkStreet y = streets(2);
        due.is("2 is no street yet", y.bend(2), BAD);
        due.is("2 is no street yet", y.bend(20), BAD);
        y.street();
        due.is("2 is a street", y.bend(2), 1);
        due.is("2 is a street", y.bend(20), 2);
        due.says("(to: 10 times the one and the other; at most 30.)");
        KinkStreet z = streets(6);
        int told = 0;
        for (int one = 0; one < 6; one++) {
            for (int other = 0; other < 6; other++) {
                due.is("bend(" + one + other + ")", z.bend(10 * one + other), one == other ? BAD : ++told);
            }
        }
        due.is("30", z.count(4), 30);
        due.is("a 31st", z.bend(1), BAD);
        due.is("30 still", z.count(4), 30);
    }

    private static void ordered(String what, KinkStreet x, int... streets) {
        for (int i = 0; i < streets.length; i++) {
            due.is(what + ": order(" + i + ")", x.order(i), streets[i]);
        }
        due.is(what + ": behind the last one", x.order(streets.length), NOT);
    }

    private static void order() {
        due.promise(14);
        due.says("ORDER: told: one STREET BENDS to another one (it is the younger).");
        ordered("0 is the younger", streets(2, 1), 1, 0);
        ordered("1 is the younger", streets(2, 10), 0, 1);
        due.says("FIRST: in which order they came: of those that bend to none that is left the least number, and so on;");
        ordered("none bends", streets(6), 0, 1, 2, 3, 4, 5);
        ordered("each to the next one", streets(6, 1, 12, 23, 34, 45), 5, 4, 3, 2, 1, 0);
        ordered("0 to 5", streets(6, 5), 1, 2, 3, 4, 5, 0);
        ordered("0 to 2: it comes as soon as it can", streets(6, 2), 1, 2, 0, 3, 4, 5);
        ordered("0 to 2 and 4", streets(6, 2, 4), 1, 2, 3, 4, 0, 5);
        ordered("no streets", streets(0));
        due.says("ORDER: the i-th STREET; NOT: behind the last one, or a RING. BAD. i -1: the RING's STREET; NOT: none.");
        KinkStreet x = streets(3);
        due.is("order(2)", x.order(2), 2);
        due.is("order(3)", x.order(3), NOT);
        due.is("the greatest i", x.order(Integer.MAX_VALUE), NOT);
        due.is("no ring", x.order(-1), NOT);
        due.is("order(-2)", x.order(-2), BAD);
        due.is("the least i", x.order(Integer.MIN_VALUE), BAD);
        due.is("no streets, no ring", streets(0).order(-1), NOT);
        due.is("no streets, order(-2)", streets(0).order(-2), BAD);
    }

    private static void ring() {
        due.says("RING: the least STREET of those that are left when none is.");
        KinkStreet x = streets(2, 1, 10);
        ordered("a ring of all", x);
        due.is("its street", x.order(-1), 0);
        x = streets(6, 34, 43);
        ordered("a ring of 3 and 4", x, 0, 1, 2, 5);
        due.is("its street", x.order(-1), 3);
        x = streets(6, 34, 45, 53, 13);
        ordered("a ring of 3, 4, 5, and 1 bends to it", x, 0, 2);
        due.is("the least that is left", x.order(-1), 1);
        x = streets(6, 45, 54, 40);
        ordered("a ring of the last two, one of them bends to 0", x, 0, 1, 2, 3);
        due.is("its street", x.order(-1), 4);
        due.is("order(-2)", x.order(-2), BAD);
    }

    private static void walled(String what, KinkStreet x, int d, int first, int length, int gate) {
        due.is(what + ": the first plot", x.wall(0, d, 0), first);
        due.is(what + ": how long", x.wall(0, d, 1), length);
        due.is(what + ": the gate", x.wall(0, d, 2), gate);
    }

    private static void wall() {
        due.promise(15);
        due.says("A WALL: the longest row of 2 PLOTS and more, one behind the other, with DEPTH above d, beside PLOTS (or ends) that are not:");
        walled("two", Due.deep(9, 9), 8, 0, 200, 0);
        walled("above 9 is none", Due.deep(9, 9), 9, NOT, NOT, NOT);
        walled("one is no row", Due.deep(9, 0, 9), 8, NOT, NOT, NOT);
        walled("one alone", Due.deep(9), 8, NOT, NOT, NOT);
        walled("no plots", Due.deep(), -5, NOT, NOT, NOT);
        walled("at the beginning", Due.deep(9, 9, 8), 8, 0, 200, 0);
        walled("at the end", Due.deep(8, 9, 9), 8, 1, 200, 1);
        walled("between", Due.deep(8, 9, 9, 8), 8, 1, 200, 1);
        walled("all of it", Due.deep(9, 9, 9, 9), 8, 0, 400, 0);
        walled("the second one is longer", Due.deep(9, 9, 0, 9, 9, 9), 8, 3, 300, 3);
        walled("the first one is longer", Due.deep(9, 9, 9, 0, 9, 9), 8, 0, 300, 0);
        walled("999 above 998", Due.deep(999, 999), 998, 0, 200, 0);
        walled("999 above 999", Due.deep(999, 999), 999, NOT, NOT, NOT);
        due.says("where it begins, how long (WIDTHS); of like ones the first.");
        KinkStreet x = new KinkStreet();
        x.street();
        int[][] facts = {{999, 9}, {100, 9}, {10, 0}, {1, 9}, {1, 9}, {1, 9}, {1, 0}, {500, 9}, {599, 9}, {5, 0}, {1, 9}};
        for (int[] f : facts) {
            x.plot(0, f[0], 99000 + f[1]);
        }
        walled("1099 and 3 and 1099, by widths and not by plots", x, 8, 0, 1099, 0);
        due.says("A WALL by d (any): the first PLOT (what 0), how long (1), GATE (2). BAD; NOT.");
        x = Due.deep(0, 0);
        walled("depth 0 above -1", x, -1, 0, 200, 0);
        walled("depth 0 above the least d", x, Integer.MIN_VALUE, 0, 200, 0);
        walled("depth 0 above 0", x, 0, NOT, NOT, NOT);
        walled("above the greatest d", Due.deep(999, 999), Integer.MAX_VALUE, NOT, NOT, NOT);
        due.is("what 3", x.wall(0, -1, 3), BAD);
        due.is("what -1", x.wall(0, -1, -1), BAD);
        due.is("what 3, where there is none", x.wall(0, 0, 3), BAD);
        due.is("no street", x.wall(1, -1, 0), BAD);
        due.is("street -1", x.wall(-1, -1, 0), BAD);
    }

    private static void gate() {
        due.says("GATE: the PLOT in that row with the least DEPTH (of like ones the first).");
        walled("the last one", Due.deep(9, 8, 7), 6, 0, 300, 2);
        walled("the first one", Due.deep(7, 8, 9), 6, 0, 300, 0);
        walled("of like ones the first", Due.deep(9, 7, 8, 7), 6, 0, 400, 1);
        walled("not that of another row", Due.deep(9, 9, 9, 0, 7, 7), 6, 0, 300, 0);
        walled("not beside the row", Due.deep(3, 9, 8, 3), 6, 1, 200, 2);
        int[] depths = new int[40];
        java.util.Arrays.fill(depths, 9);
        depths[39] = 8;
        walled("the last of 40", Due.deep(depths), 7, 0, 4000, 39);
    }

    private static void furrow() {
        due.promise(16);
        due.says("their differences (ASIDES that are not 0) have one sign, then the other one, then the first again: how many changes of sign there are.");
        int[][] asides = {{}, {0}, {0, 0, 0}, {0, 5}, {0, -5}, {0, 5, 5}, {0, -5, -9}, {0, 5, -5}, {0, -5, 5}, {0, 5, 0, -5},
            {0, 5, 0, 0, 5}, {0, 5, -5, 5}, {0, -1, 99, -99, 1}, {0, 3, 4, -1, -2, 0, -3, 7, 0}};
        int[] want = {0, 0, 0, 0, 0, 0, 0, 1, 1, 1, 0, 2, 3, 2};
        for (int k = 0; k < want.length; k++) {
            due.is("furrow of " + java.util.Arrays.toString(asides[k]), Due.aside(asides[k]).furrow(0), want[k]);
        }
        int[] all = new int[40];
        for (int p = 1; p < 40; p++) {
            all[p] = p % 2 == 0 ? 1 : -1;
        }
        due.is("39 asides: 38", Due.aside(all).furrow(0), 38);
        due.says("FURROW: changes of sign. BAD.");
        KinkStreet x = streets(6);
        due.is("an empty one", x.furrow(5), 0);
        due.is("street 6", x.furrow(6), BAD);
        due.is("street -1", x.furrow(-1), BAD);
        due.is("street 1 of 1", streets(1).furrow(1), BAD);
    }

    private static void market() {
        due.promise(17);
        due.says("the width of the place without them: AT of the one behind less AT of the first one, as a share of the STREET (thousandths, cut).");
        KinkStreet x = Due.street(100, 200, 300, 1);
        int[][] rows = {{0, 166}, {1, 499}, {2, 998}, {3, 1000}, {101, 332}, {102, 831}, {103, 833}, {202, 499}, {203, 500},
            {303, 1}};
        for (int[] r : rows) {
            due.is("market(0, " + r[0] + ")", x.market(0, r[0]), r[1]);
        }
        due.is("all of a street of 1", Due.street(1).market(0, 0), 1000);
        due.is("1 of 1000 is 1 thousandth", Due.street(1, 999).market(0, 0), 1);
        due.is("1 of 1001 is cut", Due.street(1, 999, 1).market(0, 0), 0);
        int[] widths = new int[40];
        java.util.Arrays.fill(widths, 999);
        due.is("all of the widest street", Due.street(widths).market(0, 39), 1000);
        due.is("the last of the widest street", Due.street(widths).market(0, 3939), 25);
        due.says("MARKET of PLOTS (ab). BAD.");
        int[] wrong = {4, 104, 304, 404, 100, 201, 302, 400, 99, -1, -100, Integer.MIN_VALUE, Integer.MAX_VALUE};
        for (int ab : wrong) {
            due.is("market(0, " + ab + ")", x.market(0, ab), BAD);
        }
        due.is("an empty street", Due.street().market(0, 0), BAD);
        due.is("no street", x.market(1, 0), BAD);
        due.is("street -1", x.market(-1, 0), BAD);
    }
}
