/** Promises 10 to 17: first plots, pieces, order, a wall, furrows, a market. */
public final class FirstPlotsTest {
    private static final Due due = new Due("FirstPlotsTest");

    public static void main(String[] args) {
        first();
        led();
        pieces();
        fullStreet();
        bendAndOrder();
        wall();
        furrow();
        market();
        due.end();
    }

    private static void first() {
        due.promise(10);
        KinkStreet x = Due.street(100, 50, 50, 300, 100);
        due.is("1 joining, 2 partings", x.first(0, 10000, 0), 3);
        due.is("groups", x.first(0, 10000, 1), 4);
        due.is("first ones", x.first(0, 10000, 2), 6);
        due.is("none by 90", x.first(0, 9000, 0), KinkStreet.NOT);
        due.is("none by 90: groups", x.first(0, 9000, 1), KinkStreet.NOT);
        x = Due.street(110);
        due.is("by slack 10", x.first(0, 10010, 0), 0);
        due.is("by slack 9", x.first(0, 10009, 0), KinkStreet.NOT);
        x = Due.street(220);
        due.is("2 by slack 10 each", x.first(0, 10010, 0), 1);
        due.is("2 by slack 9 each", x.first(0, 10009, 0), KinkStreet.NOT);
        x = Due.street(600);
        due.is("6 of 100", x.first(0, 10000, 2), 6);
        due.is("7 of 85 are too many", x.first(0, 8504, 2), KinkStreet.NOT);
        x = Due.street(20, 20, 20, 20, 20, 20);
        due.is("6 make one of 120", x.first(0, 12000, 0), 5);
        x = Due.street(20, 20, 20, 20, 20, 20, 20);
        due.is("7 can't", x.first(0, 14000, 0), KinkStreet.NOT);
        x = Due.street();
        due.is("of none", x.first(0, 1000, 2), 0);
        int[][] wrong = {{1, 10000, 0}, {-1, 10000, 0}, {0, 999, 0}, {0, 100000, 0}, {0, -1, 0}, {0, 10000, 3},
            {0, 10000, -1}};
        for (int[] w : wrong) {
            due.is("first(" + w[0] + ", " + w[1] + ", " + w[2] + ")", x.first(w[0], w[1], w[2]), KinkStreet.BAD);
        }
        due.is("the widest", x.first(0, 99999, 0), 0);
    }

    private static void led() {
        due.promise(11);
        KinkStreet x = Due.street(100, 50, 50, 300, 100);
        int[] want = {0, 1, 1, 2, 5};
        for (int p = 0; p < want.length; p++) {
            due.is("led(" + p + ")", x.led(p, 10000), want[p]);
        }
        due.is("led by 90", x.led(0, 9000), KinkStreet.NOT);
        // By SLACK 50 one of 150 is one or two of 100: both cost the least only as one.
        x = Due.street(150, 150, 50);
        due.is("cost by slack 50", x.first(0, 10050, 0), 0);
        due.is("first ones", x.first(0, 10050, 2), 3);
        x = Due.street(40, 60, 40, 60);
        due.is("cost", x.first(0, 10000, 0), 2);
        due.is("led(2)", x.led(2, 10000), 1);
        due.is("led, no plot", x.led(4, 10000), KinkStreet.BAD);
        due.is("led, no street", x.led(100, 10000), KinkStreet.BAD);
        due.is("led, -1", x.led(-1, 10000), KinkStreet.BAD);
        due.is("led, W 9", x.led(0, 999), KinkStreet.BAD);
        due.is("led, W 1000", x.led(0, 100000), KinkStreet.BAD);
        // By W 85 and SLACK 25 (60 to 110): (30, 40), (30, 70) or (30, 40, 30), 70, both of cost 2 and two GROUPS.
        x = Due.street(30, 40, 30, 70);
        due.is("cost 2", x.first(0, 8525, 0), 2);
        due.is("the first group has the fewest plots", x.led(2, 8525), 1);
    }

    private static void pieces() {
        due.promise(12);
        KinkStreet x = Due.street(100, 100, 200, 200, 200);
        due.is("one piece: 200 + price 250", x.pieces(0, 250, -2), 450);
        due.is("one", x.pieces(0, 250, -1), 1);
        due.is("two of them: 2 prices", x.pieces(0, 150, -2), 300);
        due.is("two", x.pieces(0, 150, -1), 2);
        due.is("the second begins", x.pieces(0, 150, 1), 2);
        due.is("of like sums the fewest", x.pieces(0, 200, -1), 1);
        due.is("none such", x.pieces(0, 200, 1), KinkStreet.BAD);
        due.is("price 0", x.pieces(0, 0, -2), 0);
        due.is("price 0: two", x.pieces(0, 0, -1), 2);
        x.mend(3, 2, 5);
        due.is("a kink costs 0: 200 200 kept together still", x.pieces(0, 500, -2), 600);
        due.is("a kink: begins there", x.pieces(0, 500, 1), 3);
        x = Due.street(1, 3, 1, 3, 1, 3, 1, 3);
        due.is("the lower middle one: 4 times 2", x.pieces(0, 100, -2), 108);
        x = Due.street(7, 7, 7, 7);
        due.is("fewest at price 0", x.pieces(0, 0, -1), 1);
        x = Due.street(1, 1, 9, 9, 5, 5, 7, 7, 3, 3, 8, 8);
        due.is("at most 5 pieces", x.pieces(0, 0, -1), 5);
        due.is("5, 5, 7, 7 cost 4; 3, 3, 8, 8: 10; 7, 7, 3, 3: 8", x.pieces(0, 0, -2), 4);
        int[] begins = {0, 2, 4, 8, 10};
        for (int i = 0; i < 5; i++) {
            due.is("begin " + i, x.pieces(0, 0, i), begins[i]);
        }
        x = Due.street(5, 5, 9, 5, 5);
        due.is("5 5 | 9 5 5 or 5 5 9 | 5 5: one piece is as little", x.pieces(0, 0, -1), 1);
        x = Due.street(5, 5, 7, 9, 9);
        due.is("7 goes to either: the earliest break", x.pieces(0, 1, 1), 2);
        due.is("its sum", x.pieces(0, 1, -2), 4);
        due.is("price 9999", x.pieces(0, 9999, -2), 10007);
        due.is("price -1", x.pieces(0, -1, -2), KinkStreet.BAD);
        due.is("price 10000", x.pieces(0, 10000, -2), KinkStreet.BAD);
        due.is("i -3", x.pieces(0, 1, -3), KinkStreet.BAD);
        due.is("i 5", x.pieces(0, 1, 5), KinkStreet.BAD);
        due.is("no street", x.pieces(1, 1, 0), KinkStreet.BAD);
        due.is("one plot", Due.street(5).pieces(0, 1, -2), KinkStreet.NOT);
        due.is("no plot", Due.street().pieces(0, 1, -1), KinkStreet.NOT);
        due.is("no plot, price 10000", Due.street().pieces(0, 10000, -1), KinkStreet.BAD);
    }

    /** The rows of the longest STREET: 40 PLOTS of 50, the last two of 100. */
    private static void fullStreet() {
        int[] widths = new int[40];
        java.util.Arrays.fill(widths, 50);
        widths[38] = 100;
        widths[39] = 100;
        KinkStreet x = Due.street(widths);
        due.promise(10);
        due.is("19 joinings", x.first(0, 10000, 0), 19);
        due.is("21 groups", x.first(0, 10000, 1), 21);
        due.is("21 first ones", x.first(0, 10000, 2), 21);
        due.promise(11);
        due.is("led(37)", x.led(37, 10000), 18);
        due.is("led(38)", x.led(38, 10000), 19);
        due.is("led(39)", x.led(39, 10000), 20);
        due.promise(12);
        due.is("two pieces", x.pieces(0, 10, -1), 2);
        due.is("the last two", x.pieces(0, 10, 1), 38);
        due.is("two prices", x.pieces(0, 10, -2), 20);
        due.promise(15);
        due.is("no wall above 0", x.wall(0, 0, 0), KinkStreet.NOT);
        due.is("a wall of all", x.wall(0, -1, 1), 2100);
        due.promise(17);
        due.is("all but one", x.market(0, 139), 976);
    }

    private static void bendAndOrder() {
        due.promise(13);
        KinkStreet x = new KinkStreet();
        due.is("bend, no streets", x.bend(1), KinkStreet.BAD);
        for (int i = 0; i < 6; i++) {
            x.street();
        }
        due.is("bend(2)", x.bend(2), 1);
        due.is("bend(2) again", x.bend(2), KinkStreet.BAD);
        due.is("bend(22)", x.bend(22), KinkStreet.BAD);
        due.is("bend(6)", x.bend(6), KinkStreet.BAD);
        due.is("bend(60)", x.bend(60), KinkStreet.BAD);
        due.is("bend(-1)", x.bend(-1), KinkStreet.BAD);
        due.is("bend(-10)", x.bend(-10), KinkStreet.BAD);
        due.is("bend(25)", x.bend(25), 2);
        due.is("count(4)", x.count(4), 2);
        due.promise(14);
        int[] want = {1, 3, 4, 5, 2, 0};
        for (int i = 0; i < 6; i++) {
            due.is("order(" + i + ")", x.order(i), want[i]);
        }
        due.is("behind the last one", x.order(6), KinkStreet.NOT);
        due.is("far behind", x.order(Integer.MAX_VALUE), KinkStreet.NOT);
        due.is("no ring", x.order(-1), KinkStreet.NOT);
        due.is("order(-2)", x.order(-2), KinkStreet.BAD);
        due.promise(13);
        due.is("bend(54)", x.bend(54), 3);
        due.is("bend(45)", x.bend(45), 4);
        due.promise(14);
        due.is("a ring: order(1)", x.order(1), 3);
        due.is("a ring: order(2)", x.order(2), KinkStreet.NOT);
        due.is("the least that is left bends to the ring", x.order(-1), 0);
        due.promise(13);
        x = new KinkStreet();
        for (int i = 0; i < 6; i++) {
            x.street();
        }
        int told = 0;
        for (int to = 0; to < 60; to++) {
            if (to / 10 != to % 10 && to % 10 < 6) {
                due.is("bend(" + to + ")", x.bend(to), ++told);
            }
        }
        due.is("30 at most", x.count(4), 30);
    }

    private static void wall() {
        due.promise(15);
        KinkStreet x = new KinkStreet();
        x.street();
        int[][] facts = {{100, 50}, {100, 60}, {300, 40}, {50, 70}, {50, 51}, {50, 51}, {50, 90}, {999, 10}, {900, 99}};
        for (int[] f : facts) {
            x.plot(0, f[0], 99000 + f[1]);
        }
        due.is("50, 60 | 70 51 51 90: as long, the first", x.wall(0, 49, 0), 0);
        due.is("200", x.wall(0, 49, 1), 200);
        due.is("the gate", x.wall(0, 49, 2), 0);
        due.is("above 50", x.wall(0, 50, 0), 3);
        due.is("the first of like gates", x.wall(0, 50, 2), 4);
        due.is("one plot is no row", x.wall(0, 51, 0), KinkStreet.NOT);
        due.is("all above -1", x.wall(0, -1, 1), 2599);
        due.is("all above the least int", x.wall(0, Integer.MIN_VALUE, 2), 7);
        due.is("above the greatest int", x.wall(0, Integer.MAX_VALUE, 2), KinkStreet.NOT);
        due.is("to the end", x.wall(0, 9, 0), 0);
        due.is("what 3", x.wall(0, 49, 3), KinkStreet.BAD);
        due.is("what -1", x.wall(0, 49, -1), KinkStreet.BAD);
        due.is("no street", x.wall(1, 49, 0), KinkStreet.BAD);
    }

    private static void furrow() {
        due.promise(16);
        KinkStreet x = new KinkStreet();
        x.street();
        due.is("no plots", x.furrow(0), 0);
        int[] asides = {0, 3, 0, 5, -1, 0, -2, 4, 0};
        int[] want = {0, 0, 0, 0, 1, 1, 1, 2, 2};
        for (int i = 0; i < asides.length; i++) {
            x.plot(0, 10, 1000 * (asides[i] + 99));
            due.is("furrow behind " + i, x.furrow(0), want[i]);
        }
        due.is("no street", x.furrow(1), KinkStreet.BAD);
        due.is("street -1", x.furrow(-1), KinkStreet.BAD);
    }

    private static void market() {
        due.promise(17);
        KinkStreet x = Due.street(100, 200, 300, 1);
        due.is("200 and 300 of 601", x.market(0, 102), 831);
        due.is("1 of 601", x.market(0, 303), 1);
        due.is("all", x.market(0, 3), 1000);
        due.is("no plot 4", x.market(0, 4), KinkStreet.BAD);
        due.is("from 2 to 1", x.market(0, 201), KinkStreet.BAD);
        due.is("-1", x.market(0, -1), KinkStreet.BAD);
        due.is("no street", x.market(1, 0), KinkStreet.BAD);
        due.is("no plots", Due.street().market(0, 0), KinkStreet.BAD);
    }
}
