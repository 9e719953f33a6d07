/** Promises 29 to 38: acts and shelves. */
public final class ShelvesTest {
    private static final Due due = new Due("ShelvesTest");

    public static void main(String[] args) {
        body();
        actAndTrace();
        keep();
        row();
        put();
        element();
        shift();
        taken();
        count();
        due.end();
    }

    private static void body() {
        due.promise(29);
        KinkStreet x = new KinkStreet();
        due.is("kind 8", x.body(8), KinkStreet.BAD);
        due.is("kind -1", x.body(-1), KinkStreet.BAD);
        for (int i = 0; i < 50; i++) {
            due.is("body", x.body(i % 8), i);
        }
        due.is("body 50", x.body(0), KinkStreet.FULL);
        due.is("body 50, kind 8", x.body(8), KinkStreet.BAD);
        due.is("count(6)", x.count(6), 50);
    }

    /** Of each KIND and ACT, with x 10 and number n: what it gives, then the bodies in order. */
    private static void actAndTrace() {
        KinkStreet x = new KinkStreet();
        for (int i = 0; i < 16; i++) {
            x.body(i % 8);
        }
        // The second of each KIND: n is 8 + KIND.
        int[][] want = {
            {8, 0, 18, 1}, {8, 1, 36, 10, 1}, {8, 2, 2, 11}, {8, 3, 36 - 9, 2, 10, 1, 11},
            {9, 0, 22, 20, 1}, {9, 1, 44, 10, 20, 1}, {9, 2, 3, 11}, {9, 3, 44 - 8, 2, 10, 20, 1, 11},
            {10, 0, 20, 1}, {10, 1, -40, 30, 10, 1}, {10, 2, 0, 11}, {10, 3, -40 - 11, 2, 30, 10, 1, 11},
            {11, 0, 21, 1}, {11, 1, 42, 10, 1}, {11, 2, 3, 40, 11}, {11, 3, 42 - 30, 2, 10, 1, 40, 11},
            {12, 0, 22, 1}, {12, 1, 44, 10, 1}, {12, 2, 18 - 14, 50, 40, 11, 1},
            {12, 3, 44 - (39 - 14) ^ 5, 51, 2, 10, 1, 50, 40, 11, 1},
            {13, 0, 26, 20, 1}, {13, 1, 52 + 15, 60, 10, 20, 1, 11}, {13, 2, 7, 11},
            {13, 3, 67 - 12, 2, 60, 10, 20, 1, 11, 11},
            {14, 0, 25, 70, 1}, {14, 1, 50, 10, 70, 1}, {14, 2, 4, 11}, {14, 3, 50 - 15, 2, 10, 70, 1, 11},
            {15, 0, 56, 80, 20, 1}, {15, 1, 112, 10, 80, 20, 1}, {15, 2, 4, 81, 11},
            {15, 3, 112 - 13, 2, 10, 80, 20, 1, 81, 11}};
        for (int[] w : want) {
            String call = "act(" + w[0] + ", " + w[1] + ", 10)";
            due.promise(30);
            due.is(call, x.act(w[0], w[1], 10), w[2]);
            due.promise(31);
            for (int i = 3; i < w.length; i++) {
                due.is(call + ": trace(" + (i - 3) + ")", x.trace(i - 3), w[i]);
            }
            due.is(call + ": behind the trace", x.trace(w.length - 3), KinkStreet.BAD);
            due.is("trace(-1)", x.trace(-1), KinkStreet.BAD);
            due.promise(38);
            due.is(call + ": count(7)", x.count(7), w.length - 3);
        }
        due.promise(30);
        due.is("wraps", x.act(0, 1, Integer.MAX_VALUE), -2);
        due.is("wraps", x.act(1, 0, Integer.MAX_VALUE), Integer.MIN_VALUE + 3);
        int[][] none = {{16, 0}, {-1, 0}, {0, 4}, {0, -1}};
        for (int[] n : none) {
            x.act(4, 3, 1);
            due.promise(30);
            due.is("act(" + n[0] + ", " + n[1] + ", 5)", x.act(n[0], n[1], 5), 0);
            due.is("no trace", x.count(7), 0);
            due.promise(31);
            due.is("no trace", x.trace(0), KinkStreet.BAD);
        }
    }

    private static void keep() {
        due.promise(32);
        KinkStreet x = new KinkStreet();
        x.body(3);
        due.is("keep(0, 0)", x.keep(0, 0), 1);
        due.is("it is there", x.taken(0, 3), 3);
        due.is("keep(5, 0)", x.keep(5, 0), 1);
        due.is("keep(6, 0)", x.keep(6, 0), KinkStreet.BAD);
        due.is("keep(-1, 0)", x.keep(-1, 0), KinkStreet.BAD);
        due.is("keep(0, 1)", x.keep(0, 1), KinkStreet.BAD);
        due.is("keep(0, -2)", x.keep(0, -2), KinkStreet.BAD);
        due.is("it is still there", x.taken(0, 0), 3);
        due.is("keep(0, -1)", x.keep(0, -1), 1);
        due.is("it is gone", x.taken(0, 0), -11);
        due.is("keep(1, -1)", x.keep(1, -1), 1);
        x.row(5, 0, 3);
        due.is("a row there", x.taken(5, 3), -12);
        x.keep(5, -1);
        due.is("it is gone", x.put(5, 0, 1), -11);
    }

    private static void row() {
        due.promise(33);
        KinkStreet x = new KinkStreet();
        int[][] wrong = {{6, 0, 3}, {-1, 0, 3}, {0, 5, 3}, {0, -1, 3}, {0, 0, 61}, {0, 5, -1}, {6, 0, -1}};
        for (int[] w : wrong) {
            due.is("row(" + w[0] + ", " + w[1] + ", " + w[2] + ")", x.row(w[0], w[1], w[2]), KinkStreet.BAD);
        }
        due.is("row(0, 0, -1)", x.row(0, 0, -1), -14);
        due.is("row(0, 0, the least int)", x.row(0, 0, Integer.MIN_VALUE), -14);
        due.is("nothing is there", x.put(0, 0, 1), -11);
        due.is("row(0, 4, 60)", x.row(0, 4, 60), 1);
        due.is("element 59", x.element(0, 59), 0);
        x.put(0, 59, 7);
        due.is("a new row", x.row(0, 3, 60), 1);
        due.is("0 at first", x.element(0, 59), 0);
        due.is("row(0, 3, 0)", x.row(0, 3, 0), 1);
        due.is("no places", x.put(0, 0, 1), -13);
    }

    private static void put() {
        due.promise(34);
        KinkStreet x = new KinkStreet();
        x.body(0);
        due.is("shelf 6", x.put(6, 0, 1), KinkStreet.BAD);
        due.is("shelf -1", x.put(-1, 0, 1), KinkStreet.BAD);
        due.is("nothing there", x.put(0, -1, 1), -11);
        x.keep(0, 0);
        due.is("a line", x.put(0, -1, 1), -12);
        x.row(0, 0, 3);
        due.is("place 3", x.put(0, 3, 1), -13);
        due.is("place -1", x.put(0, -1, 1), -13);
        due.is("place 2", x.put(0, 2, 1), 1);
        long v = 0x1234_5678_9abc_de80L;
        long[] want = {(byte) 0x80, (short) 0xde80, 0x9abcde80, v, 1};
        for (int sort = 0; sort < 5; sort++) {
            x.row(1, sort, 1);
            due.is("put, sort " + sort, x.put(1, 0, v), 1);
            due.is("lowest bits, sort " + sort, x.element(1, 0), want[sort]);
            x.put(1, 0, 1L << 40);
            due.is("a high bit, sort " + sort, x.element(1, 0), sort == 3 ? 1L << 40 : sort == 4 ? 1 : 0);
            x.put(1, 0, 0);
            due.is("0, sort " + sort, x.element(1, 0), 0);
        }
    }

    private static void element() {
        due.promise(35);
        KinkStreet x = new KinkStreet();
        x.body(0);
        due.is("shelf 6", x.element(6, 0), Long.MIN_VALUE);
        due.is("shelf -1", x.element(-1, 0), Long.MIN_VALUE);
        due.is("nothing there", x.element(0, 0), Long.MIN_VALUE);
        x.keep(0, 0);
        due.is("a line", x.element(0, 0), Long.MIN_VALUE);
        x.row(0, 3, 2);
        x.put(0, 1, -5);
        due.is("element 1", x.element(0, 1), -5);
        due.is("element 0", x.element(0, 0), 0);
        due.is("element 2", x.element(0, 2), Long.MIN_VALUE);
        due.is("element -1", x.element(0, -1), Long.MIN_VALUE);
    }

    private static void shift() {
        due.promise(36);
        KinkStreet x = new KinkStreet();
        x.body(0);
        x.row(0, 2, 6);
        x.row(1, 2, 3);
        x.row(2, 1, 6);
        x.keep(3, 0);
        for (int i = 0; i < 6; i++) {
            x.put(0, i, i + 1);
        }
        due.is("to another one", x.shift(0, 3, 1, 1, 2), 2);
        due.is("0 4 5", x.element(1, 0) * 100 + x.element(1, 1) * 10 + x.element(1, 2), 45);
        due.is("further on in the same", x.shift(0, 0, 0, 2, 4), 4);
        long[] on = {1, 2, 1, 2, 3, 4};
        for (int i = 0; i < 6; i++) {
            due.is("element " + i, x.element(0, i), on[i]);
        }
        due.is("further back in the same", x.shift(0, 1, 0, 0, 5), 5);
        long[] back = {2, 1, 2, 3, 4, 4};
        for (int i = 0; i < 6; i++) {
            due.is("element " + i, x.element(0, i), back[i]);
        }
        due.is("none, at the end", x.shift(0, 6, 1, 3, 0), 0);
        int[][] no = {{6, 0, 0, 0, 1, -1}, {0, 0, 6, 0, 1, -1}, {-1, 0, 4, 0, 1, -1}, {4, 0, 0, 0, 1, -11},
            {0, 0, 4, 0, 1, -11}, {3, 0, 4, 0, 1, -11}, {4, 0, 3, 0, 1, -11}, {0, 0, 3, 0, 1, -12}, {3, 0, 0, 0, 1, -12},
            {3, 0, 3, 0, 1, -12}, {0, 0, 2, 0, 1, -12}, {0, 9, 2, 0, 1, -12}, {0, -1, 1, 0, 1, -13}, {0, 0, 1, -1, 1, -13},
            {0, 0, 1, 0, -1, -13}, {0, 0, 1, 0, 4, -13}, {0, 5, 1, 0, 2, -13}, {0, 7, 1, 0, 0, -13}, {0, 0, 1, 4, 0, -13},
            {0, 1, 1, 0, Integer.MAX_VALUE, -13}, {0, Integer.MAX_VALUE, 1, 0, 1, -13},
            {0, 1, 1, 0, Integer.MIN_VALUE, -13}};
        for (int[] n : no) {
            due.is("shift(" + n[0] + ", " + n[1] + ", " + n[2] + ", " + n[3] + ", " + n[4] + ")",
                x.shift(n[0], n[1], n[2], n[3], n[4]), n[5]);
        }
        for (int i = 0; i < 6; i++) {
            due.is("nothing has changed: " + i, x.element(0, i), back[i]);
        }
    }

    private static void taken() {
        due.promise(37);
        KinkStreet x = new KinkStreet();
        boolean[][] under = new boolean[8][8];
        int[] above = {0, 0, 0, 0, 3, 1, 0, 1};
        for (int kind = 0; kind < 8; kind++) {
            under[kind][kind] = true;
            under[kind][0] = true;
            under[kind][above[kind]] = true;
            x.body(kind);
        }
        for (int kind = 0; kind < 8; kind++) {
            x.keep(2, kind);
            for (int k = 0; k < 8; k++) {
                due.is("kind " + kind + " taken for " + k, x.taken(2, k), under[kind][k] ? kind : -12);
            }
        }
        due.is("shelf 6", x.taken(6, 0), KinkStreet.BAD);
        due.is("shelf -1", x.taken(-1, 0), KinkStreet.BAD);
        due.is("kind 8", x.taken(2, 8), KinkStreet.BAD);
        due.is("kind -1", x.taken(2, -1), KinkStreet.BAD);
        due.is("nothing there", x.taken(1, 0), -11);
        x.row(1, 0, 0);
        due.is("a row", x.taken(1, 0), -12);
    }

    private static void count() {
        due.promise(38);
        KinkStreet x = new KinkStreet();
        due.is("count(-1)", x.count(-1), KinkStreet.BAD);
        due.is("count(8)", x.count(8), KinkStreet.BAD);
        x.street();
        x.street();
        x.plot(1, 50, 99000);
        x.stands(0, 0);
        x.stands(0, 1);
        x.stands(0, 2);
        x.feed(1, '1');
        x.law();
        x.feed(4, 0);
        x.bend(10);
        x.mend(100, 0, 60);
        x.body(1);
        x.body(1);
        x.act(1, 1, 0);
        int[] want = {2, 3, 1, 4, 1, 1, 2, 3};
        for (int what = 0; what < want.length; what++) {
            due.is("count(" + what + ")", x.count(what), want[what]);
        }
        x.undo();
        due.is("count(5)", x.count(5), 0);
    }
}
