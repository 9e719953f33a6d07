/** Promises 1 to 6: streets and plots. */
public final class StreetsTest {
    private static final Due due = new Due("StreetsTest");

    public static void main(String[] args) {
        newObject();
        streets();
        plot();
        plotsFromARow();
        mend();
        of();
        due.end();
    }

    private static int da(int aside, int depth) {
        return 1000 * (aside + 99) + depth;
    }

    private static void newObject() {
        due.promise(1);
        KinkStreet x = new KinkStreet();
        for (int what = 0; what <= 7; what++) {
            due.is("count(" + what + ")", x.count(what), 0);
        }
        due.is("of(0, 0)", x.of(0, 0), KinkStreet.VOID);
        due.is("order(0)", x.order(0), KinkStreet.NOT);
        due.is("undo()", x.undo(), KinkStreet.STATE);
        due.is("redo()", x.redo(), KinkStreet.STATE);
        due.is("trace(0)", x.trace(0), KinkStreet.BAD);
        due.is("element(0, 0)", x.element(0, 0), Long.MIN_VALUE);
        due.is("put(0, 0, 1)", x.put(0, 0, 1), -11);
    }

    private static void streets() {
        due.promise(2);
        KinkStreet x = new KinkStreet();
        for (int i = 0; i < 6; i++) {
            due.is("street()", x.street(), i);
        }
        due.is("street(), a seventh", x.street(), KinkStreet.FULL);
        due.is("count(0)", x.count(0), 6);
    }

    private static void plot() {
        due.promise(3);
        KinkStreet x = new KinkStreet();
        due.is("plot, no street", x.plot(0, 100, da(0, 50)), KinkStreet.BAD);
        x.street();
        due.is("plot, street -1", x.plot(-1, 100, da(0, 50)), KinkStreet.BAD);
        due.is("plot, width 0", x.plot(0, 0, da(0, 50)), KinkStreet.BAD);
        due.is("plot, width 1000", x.plot(0, 1000, da(0, 50)), KinkStreet.BAD);
        due.is("plot, first aside 1", x.plot(0, 100, da(1, 50)), KinkStreet.BAD);
        due.is("plot, first aside -1", x.plot(0, 100, da(-1, 50)), KinkStreet.BAD);
        due.is("plot", x.plot(0, 999, da(0, 999)), 0);
        due.is("plot, da -1", x.plot(0, 100, -1), KinkStreet.BAD);
        due.is("plot, aside 100", x.plot(0, 100, da(100, 0)), KinkStreet.BAD);
        due.is("plot, da far too large", x.plot(0, 100, Integer.MAX_VALUE), KinkStreet.BAD);
        due.is("plot, aside -99", x.plot(0, 1, da(-99, 0)), 1);
        due.is("plot, aside 99", x.plot(0, 1, da(99, 999)), 2);
        due.is("its aside", x.of(0, 302), 99);
        due.is("its depth", x.of(0, 202), 999);
        for (int i = 3; i < 40; i++) {
            due.is("plot " + i, x.plot(0, i, da(0, i)), i);
        }
        due.is("plot 40", x.plot(0, 10, da(0, 10)), KinkStreet.FULL);
        due.is("plot 40, width 0", x.plot(0, 0, da(0, 10)), KinkStreet.BAD);
        due.is("how many", x.of(0, 0), 40);
    }

    private static void fill(KinkStreet x, int shelf, int... values) {
        for (int i = 0; i < values.length; i++) {
            x.put(shelf, i, values[i]);
        }
    }

    private static void plotsFromARow() {
        due.promise(4);
        KinkStreet x = new KinkStreet();
        due.is("plots, no street", x.plots(0, 0, 0, 1), KinkStreet.BAD);
        x.street();
        due.is("plots, nothing on the shelf", x.plots(0, 0, 0, 1), 0);
        due.is("plots, shelf 6", x.plots(0, 6, 0, 1), KinkStreet.BAD);
        due.is("plots, shelf -1", x.plots(0, -1, 0, 1), KinkStreet.BAD);
        due.is("plots, n 0", x.plots(0, 0, 0, 0), KinkStreet.BAD);
        due.is("plots, n 21", x.plots(0, 0, 0, 21), KinkStreet.BAD);
        x.row(0, 2, 6);
        due.is("plots, a row of ints", x.plots(0, 0, 0, 1), -12);
        x.body(0);
        x.keep(0, 0);
        due.is("plots, a line", x.plots(0, 0, 0, 1), -12);
        x.row(0, 1, 11);
        fill(x, 0, 280, 90, 0, 140, 95, -99, 141, 96, 7, 150, 97);
        due.is("plots, it ends within a three", x.plots(0, 0, 0, 20), 3);
        due.is("of(0, 0)", x.of(0, 0), 3);
        due.is("width", x.of(0, 100), 280);
        due.is("depth", x.of(0, 201), 95);
        due.is("aside", x.of(0, 301), -99);
        due.is("plots, from place 3", x.plots(0, 0, 3, 1), 1);
        due.is("its width", x.of(0, 103), 140);
        due.is("plots, behind the end", x.plots(0, 0, 11, 1), 0);
        due.is("plots, far behind the end", x.plots(0, 0, Integer.MAX_VALUE, 20), 0);
        due.is("plots, ahead of the row", x.plots(0, 0, -1, 2), 0);
        x.put(0, 4, 1000);
        due.is("plots, the second one is not so", x.plots(0, 0, 0, 3), 1);
        due.is("of(0, 0)", x.of(0, 0), 5);
        x.street();
        due.is("plots, the first one's aside is not 0", x.plots(1, 0, 6, 1), 0);
        x.row(1, 1, 60);
        for (int i = 0; i < 60; i++) {
            x.put(1, i, i % 3 == 0 ? 10 : 0);
        }
        due.is("plots, 20", x.plots(1, 1, 0, 20), 20);
        due.is("plots, 19", x.plots(1, 1, 0, 19), 19);
        due.is("plots, the street is full", x.plots(1, 1, 0, 5), 1);
        due.is("plots, it was full", x.plots(1, 1, 0, 5), 0);
        due.is("of(1, 1)", x.of(1, 1), 400);
    }

    private static void mend() {
        due.promise(5);
        KinkStreet x = new KinkStreet();
        x.street();
        x.street();
        x.plot(1, 280, da(0, 90));
        x.plot(1, 140, da(-5, 95));
        due.is("mend width", x.mend(101, 0, 150), 140);
        due.is("mend depth", x.mend(101, 1, 0), 95);
        due.is("mend aside", x.mend(101, 2, 99), -5);
        due.is("mend aside again", x.mend(101, 2, -99), 99);
        due.is("width", x.of(1, 101), 150);
        due.is("depth", x.of(1, 201), 0);
        due.is("aside", x.of(1, 301), -99);
        due.is("changes", x.count(5), 4);
        due.is("mend, the same", x.mend(101, 0, 150), 150);
        due.is("mend, first aside 0", x.mend(100, 2, 0), 0);
        due.is("changes", x.count(5), 4);
        int[][] wrong = {{100, 2, 1}, {101, 2, 100}, {101, 2, -100}, {101, 1, -1}, {101, 1, 1000}, {101, 0, 0},
            {101, 0, 1000}, {101, 3, 5}, {101, -1, 5}, {102, 0, 5}, {0, 0, 5}, {200, 0, 5}, {-1, 0, 5}, {-100, 0, 5}};
        for (int[] w : wrong) {
            due.is("mend(" + w[0] + ", " + w[1] + ", " + w[2] + ")", x.mend(w[0], w[1], w[2]), KinkStreet.VOID);
        }
        due.is("changes", x.count(5), 4);
    }

    private static void of() {
        due.promise(6);
        KinkStreet x = new KinkStreet();
        x.street();
        due.is("of an empty one", x.of(0, 0), 0);
        due.is("of an empty one", x.of(0, 1), 0);
        due.is("of an empty one", x.of(0, 2), 0);
        due.is("of an empty one", x.of(0, 400), KinkStreet.VOID);
        x.plot(0, 280, da(0, 90));
        x.plot(0, 140, da(-5, 95));
        x.plot(0, 141, da(0, 96));
        x.plot(0, 142, da(6, 97));
        long[][] right = {{0, 4}, {1, 703}, {2, 2}, {100, 280}, {103, 142}, {200, 90}, {203, 97}, {300, 0}, {301, -5},
            {303, 6}, {400, 0}, {401, 280}, {403, 561}};
        for (long[] r : right) {
            due.is("of(0, " + r[0] + ")", x.of(0, (int) r[0]), r[1]);
        }
        int[] wrong = {-1, 3, 99, 104, 199, 204, 304, 404, 500, 503, 1000, Integer.MIN_VALUE, Integer.MAX_VALUE};
        for (int w : wrong) {
            due.is("of(0, " + w + ")", x.of(0, w), KinkStreet.VOID);
        }
        due.is("of(1, 0)", x.of(1, 0), KinkStreet.VOID);
        due.is("of(-1, 0)", x.of(-1, 0), KinkStreet.VOID);
    }
}
