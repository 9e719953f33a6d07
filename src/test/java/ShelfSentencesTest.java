/** Promises 29 to 38, sentence by sentence: LINES, their ACTS and THE TRACE, SHELVES, and what several refusals answer. */
public final class ShelfSentencesTest {
    private static final Due due = new Due("ShelfSentencesTest");
    private static final int BAD = KinkStreet.BAD, FULL = KinkStreet.FULL;
    private static final int[] XS = {0, 1, -1, 2, 10, 1000000007, -7, 1 << 30, Integer.MAX_VALUE, Integer.MIN_VALUE};
    /** Of each KIND, by ACTS: which bodies run, as they begin. */
    private static final String[][] BODIES = {
        {"1", "10 1", "11", "2 10 1 11"},
        {"20 1", "10 20 1", "11", "2 10 20 1 11"},
        {"1", "30 10 1", "11", "2 30 10 1 11"},
        {"1", "10 1", "40 11", "2 10 1 40 11"},
        {"1", "10 1", "50 40 11 1", "51 2 10 1 50 40 11 1"},
        {"20 1", "60 10 20 1 11", "11", "2 60 10 20 1 11 11"},
        {"70 1", "10 70 1", "11", "2 10 70 1 11"},
        {"80 20 1", "10 80 20 1", "81 11", "2 10 80 20 1 81 11"}};

    public static void main(String[] args) {
        body();
        acts();
        noAct();
        trace();
        keep();
        row();
        put();
        element();
        shiftPlaces();
        shiftRefusals();
        shiftSame();
        taken();
        count();
        severalRefusals();
        nothingChanges();
        constants();
        hostRefusals();
        due.end();
    }

    private static KinkStreet linesOfAllKinds(int times) {
        KinkStreet x = new KinkStreet();
        for (int i = 0; i < 8 * times; i++) {
            x.body(i % 8);
        }
        return x;
    }

    private static void body() {
        due.promise(29);
        due.says("A LINE of a KIND (0 .. 7) is kept: its number. BAD, FULL.");
        KinkStreet x = new KinkStreet();
        int[] wrong = {-1, 8, Integer.MIN_VALUE, Integer.MAX_VALUE};
        for (int kind : wrong) {
            due.is("kind " + kind, x.body(kind), BAD);
        }
        due.is("none is kept", x.count(6), 0);
        due.says("LINES are kept by call as BODIES 0 .. 49, of KINDS:");
        for (int i = 0; i <= 49; i++) {
            due.is("a line", x.body(7 - i % 8), i);
        }
        due.is("a 51st", x.body(0), FULL);
        for (int kind : wrong) {
            due.is("a 51st of kind " + kind, x.body(kind), BAD);
        }
        due.is("fifty", x.count(6), 50);
        due.is("the last one is of its kind", x.keep(0, 49) + x.taken(0, 6), 7);
        due.is("the first one is of its kind", x.keep(0, 0) + x.taken(0, 7), 8);
    }

    private static int runs(int kind, int n, int x) {
        return switch (kind) {
            case 1, 5 -> x + n + 3;
            case 6 -> x + 1 + n;
            case 7 -> (x + n + 3) * 2;
            default -> x + n;
        };
    }

    private static int leads(int kind, int n, int x) {
        return switch (kind) {
            case 3 -> (x ^ n) * 3;
            case 4 -> (x ^ n) * 3 - (2 + n);
            case 7 -> (x ^ n) - 1;
            default -> x ^ n;
        };
    }

    private static int breaks(int kind, int n, int x) {
        int breaks = runs(kind, n, x) * 2;
        return kind == 2 ? -breaks : kind == 5 ? breaks + (2 ^ n) : breaks;
    }

    private static int tells(int kind, int n, int x) {
        int tells = breaks(kind, n, x) - leads(kind, n, 1);
        return kind == 4 ? tells ^ 5 : tells;
    }

    private static int acted(int kind, int n, int act, int x) {
        return act == 0 ? runs(kind, n, x) : act == 1 ? breaks(kind, n, x) : act == 2 ? leads(kind, n, x) : tells(kind, n, x);
    }

    private static void acts() {
        due.promise(30);
        due.says("ACTS with x (an int that wraps): 0 runs, 1 breaks, 2 leads, 3 tells; n its number.");
        for (int n = 0; n < 50; n++) {
            KinkStreet x = linesOfAllKinds(6);
            x.body(4);
            x.body(7);
            int kind = n == 48 ? 4 : n == 49 ? 7 : n % 8;
            for (int act = 0; act < 4; act++) {
                for (int v : XS) {
                    due.is("act(" + n + ", " + act + ", " + v + ") of kind " + kind, x.act(n, act, v), acted(kind, n, act, v));
                }
            }
        }
    }

    private static void noAct() {
        due.says("An ACT (0 .. 3) of a LINE with x. 0, and no TRACE then: no such LINE, ACT.");
        int[][] none = {{8, 0}, {-1, 0}, {50, 0}, {0, 4}, {0, -1}, {7, 4}, {8, 4}, {Integer.MIN_VALUE, 0},
            {Integer.MAX_VALUE, 0}, {0, Integer.MIN_VALUE}, {0, Integer.MAX_VALUE}};
        KinkStreet x = linesOfAllKinds(1);
        for (int[] n : none) {
            due.is("a trace of two", x.act(0, 1, 5), 10);
            due.is("two bodies", x.count(7), 2);
            due.is("act(" + n[0] + ", " + n[1] + ", 5)", x.act(n[0], n[1], 5), 0);
            due.is("no bodies", x.count(7), 0);
            due.is("no trace", x.trace(0), BAD);
        }
        due.is("no lines", new KinkStreet().act(0, 0, 5), 0);
    }

    private static void trace() {
        due.promise(31);
        due.says("THE TRACE: numbers of the bodies that ran in the latest act(), as they began; the first 24 are kept.");
        for (int kind = 0; kind < 8; kind++) {
            KinkStreet x = linesOfAllKinds(1);
            for (int act = 0; act < 4; act++) {
                String[] bodies = BODIES[kind][act].split(" ");
                x.act(4, 3, 9);
                x.act(kind, act, 9);
                for (int i = 0; i < 26; i++) {
                    due.is("kind " + kind + ", act " + act + ": trace(" + i + ")", x.trace(i),
                        i < bodies.length ? Integer.parseInt(bodies[i]) : BAD);
                }
                due.is("kind " + kind + ", act " + act + ": count(7)", x.count(7), bodies.length);
            }
        }
        due.says("`int trace(int i)`: THE TRACE's i-th body. BAD.");
        int[] wrong = {-1, 8, 24, 25, Integer.MIN_VALUE, Integer.MAX_VALUE};
        KinkStreet x = linesOfAllKinds(1);
        x.act(4, 3, 9);
        due.is("trace(7)", x.trace(7), 1);
        for (int i : wrong) {
            due.is("trace(" + i + ")", x.trace(i), BAD);
        }
        due.is("no act yet", new KinkStreet().trace(0), BAD);
    }

    private static void keep() {
        due.promise(32);
        due.says("SHELVES 0 .. 5 each hold nothing (at first), a LINE, or a ROW:");
        KinkStreet x = new KinkStreet();
        for (int shelf = 0; shelf <= 5; shelf++) {
            due.is("shelf " + shelf + " holds nothing", x.taken(shelf, 0), -11);
            due.is("shelf " + shelf + " holds no row", x.put(shelf, 0, 0), -11);
        }
        due.says("A SHELF holds nothing (body -1), or a LINE: 1. BAD.");
        x.body(2);
        x.body(5);
        for (int shelf = 0; shelf <= 5; shelf++) {
            due.is("a line on shelf " + shelf, x.keep(shelf, 1), 1);
            due.is("it is there", x.taken(shelf, 0), 5);
            due.is("another one", x.keep(shelf, 0), 1);
            due.is("it is there", x.taken(shelf, 0), 2);
        }
        int[][] wrong = {{6, 0}, {-1, 0}, {6, -1}, {-1, -1}, {0, 2}, {0, -2}, {0, 50}, {Integer.MAX_VALUE, 0},
            {Integer.MIN_VALUE, 0}, {0, Integer.MAX_VALUE}, {0, Integer.MIN_VALUE}};
        for (int[] w : wrong) {
            due.is("keep(" + w[0] + ", " + w[1] + ")", x.keep(w[0], w[1]), BAD);
        }
        due.is("shelf 0 is as it was", x.taken(0, 0), 2);
        due.is("shelf 5 is as it was", x.taken(5, 0), 2);
        due.is("nothing", x.keep(5, -1), 1);
        due.is("it is gone", x.taken(5, 0), -11);
        due.is("nothing again", x.keep(5, -1), 1);
        x.row(4, 0, 2);
        due.is("a line where a row was", x.keep(4, 0), 1);
        due.is("the row is gone", x.put(4, 0, 1), -12);
        x.row(4, 0, 2);
        due.is("nothing where a row was", x.keep(4, -1), 1);
        due.is("the row is gone", x.put(4, 0, 1), -11);
    }

    private static void row() {
        due.promise(33);
        due.says("of 0 bytes, 1 shorts, 2 ints, 3 longs, 4 booleans, of 0 .. 60 elements, 0 at first (false);");
        for (int sort = 0; sort <= 4; sort++) {
            KinkStreet x = new KinkStreet();
            for (int n = 0; n <= 60; n += 20) {
                due.is("row(5, " + sort + ", " + n + ")", x.row(5, sort, n), 1);
                due.is("behind the last element", x.put(5, n, 1), -13);
                for (int i = 0; i < n; i++) {
                    due.is("element " + i + " at first", x.element(5, i), 0);
                    x.put(5, i, -1);
                }
            }
        }
        due.says("A SHELF holds a ROW: 1. BAD (sort, n above 60); -14.");
        KinkStreet x = new KinkStreet();
        x.row(0, 0, 3);
        x.put(0, 2, 9);
        int[][] wrong = {{0, 5, 3, BAD}, {0, -1, 3, BAD}, {0, 0, 61, BAD}, {0, 4, 61, BAD}, {0, 0, Integer.MAX_VALUE, BAD},
            {6, 0, 3, BAD}, {-1, 0, 3, BAD}, {0, 0, -1, -14}, {0, 4, -1, -14}, {0, 0, Integer.MIN_VALUE, -14},
            {0, 5, -1, BAD}, {0, -1, -1, BAD}, {6, 0, -1, BAD}, {-1, 0, -1, BAD}, {0, Integer.MAX_VALUE, 3, BAD}};
        for (int[] w : wrong) {
            due.is("row(" + w[0] + ", " + w[1] + ", " + w[2] + ")", x.row(w[0], w[1], w[2]), w[3]);
            due.is("the row is as it was", x.element(0, 2), 9);
        }
        due.is("row(0, 0, 60)", x.row(0, 0, 60), 1);
        due.is("a new one: 0 at first", x.element(0, 2), 0);
        x.body(0);
        x.keep(0, 0);
        due.is("a row where a line was", x.row(0, 4, 1), 1);
        due.is("the line is gone", x.taken(0, 0), -12);
    }

    private static void put() {
        due.promise(34);
        due.says("what is put in keeps its lowest bits (a boolean: whether it is not 0; 1 or 0).");
        long[] values = {0, 1, -1, 127, 128, 255, 256, -128, -129, 32767, 32768, 65535, 65536, -32768, -32769, Integer.MAX_VALUE,
            1L << 31, 1L << 32, Integer.MIN_VALUE, Integer.MIN_VALUE - 1L, Long.MAX_VALUE, Long.MIN_VALUE, 1L << 40};
        KinkStreet x = new KinkStreet();
        for (int sort = 0; sort <= 4; sort++) {
            x.row(sort, sort, 60);
            for (long v : values) {
                long[] kept = {(byte) v, (short) v, (int) v, v, v != 0 ? 1 : 0};
                due.is("put " + v + ", sort " + sort, x.put(sort, 59, v), 1);
                due.is(v + ", sort " + sort, x.element(sort, 59), kept[sort]);
            }
            due.is("the one ahead of it", x.element(sort, 58), 0);
        }
        due.says("Element i of a ROW becomes v: 1. BAD, -11, -12, -13.");
        x.body(0);
        x.keep(5, 0);
        x.keep(4, -1);
        int[][] wrong = {{6, 0, BAD}, {-1, 0, BAD}, {6, -1, BAD}, {4, 0, -11}, {4, -1, -11}, {4, 60, -11}, {5, 0, -12},
            {5, -1, -12}, {5, 60, -12}, {0, -1, -13}, {0, 60, -13}, {0, Integer.MAX_VALUE, -13}, {0, Integer.MIN_VALUE, -13},
            {Integer.MAX_VALUE, 0, BAD}, {Integer.MIN_VALUE, 0, BAD}};
        for (int[] w : wrong) {
            due.is("put(" + w[0] + ", " + w[1] + ", 5)", x.put(w[0], w[1], 5), w[2]);
            due.is("element(" + w[0] + ", " + w[1] + ")", x.element(w[0], w[1]), Long.MIN_VALUE);
        }
        x.row(0, 0, 1);
        due.is("place 0 of one", x.put(0, 0, 5), 1);
        due.is("place 1 of one", x.put(0, 1, 5), -13);
    }

    private static void element() {
        due.promise(35);
        due.says("Element i of a ROW; Long.MIN_VALUE: BAD, -11 to -13.");
        KinkStreet x = new KinkStreet();
        x.body(0);
        x.keep(1, 0);
        x.row(0, 3, 3);
        for (int i = 0; i < 3; i++) {
            x.put(0, i, 100 + i);
        }
        long none = Long.MIN_VALUE;
        long[][] rows = {{0, 0, 100}, {0, 1, 101}, {0, 2, 102}, {0, 3, none}, {0, -1, none}, {0, Integer.MAX_VALUE, none},
            {0, Integer.MIN_VALUE, none}, {1, 0, none}, {2, 0, none}, {6, 0, none}, {-1, 0, none}};
        for (long[] r : rows) {
            due.is("element(" + r[0] + ", " + r[1] + ")", x.element((int) r[0], (int) r[1]), r[2]);
        }
        x.put(0, 0, Long.MIN_VALUE);
        due.is("the least long may stand there", x.element(0, 0), Long.MIN_VALUE);
        x.row(0, 3, 0);
        due.is("a row of none", x.element(0, 0), none);
    }

    /** ROWS of ints 1 2 3 4 5 on SHELF 0, 0 0 0 on 1; 0 0 0 of shorts on 2; a LINE on 3; nothing on 4. */
    private static KinkStreet rows() {
        KinkStreet x = new KinkStreet();
        x.body(0);
        x.row(0, 2, 5);
        x.row(1, 2, 3);
        x.row(2, 1, 3);
        x.keep(3, 0);
        for (int i = 0; i < 5; i++) {
            x.put(0, i, i + 1);
        }
        return x;
    }

    private static long digits(KinkStreet x, int shelf, int n) {
        long digits = 0;
        for (int i = 0; i < n; i++) {
            digits = 10 * digits + x.element(shelf, i);
        }
        return digits;
    }

    private static void shiftPlaces() {
        due.promise(36);
        due.says("n elements of a ROW from i on come to another one (or the same) from j on, as they all were before: n.");
        int[][] right = {{0, 0, 3, 123}, {2, 0, 3, 345}, {0, 2, 1, 1}, {4, 0, 1, 500}, {0, 0, 0, 0}, {5, 3, 0, 0}, {5, 0, 0, 0},
            {0, 3, 0, 0}, {3, 1, 2, 45}};
        for (int[] r : right) {
            KinkStreet x = rows();
            due.is("shift(0, " + r[0] + ", 1, " + r[1] + ", " + r[2] + ")", x.shift(0, r[0], 1, r[1], r[2]), r[2]);
            due.is("what is there then", digits(x, 1, 3), r[3]);
            due.is("where they came from", digits(x, 0, 5), 12345);
        }
        int[][] wrong = {{0, 0, 4}, {3, 0, 3}, {0, 1, 3}, {5, 0, 1}, {0, 3, 1}, {6, 0, 0}, {0, 4, 0}, {-1, 0, 1}, {0, -1, 1},
            {-1, 0, 0}, {0, -1, 0}, {0, 0, -1}, {0, 0, Integer.MAX_VALUE}, {0, 0, Integer.MIN_VALUE},
            {1, 1, Integer.MAX_VALUE}, {Integer.MAX_VALUE, 0, 1}, {0, Integer.MAX_VALUE, 1}, {Integer.MAX_VALUE, 0,
            Integer.MAX_VALUE}, {Integer.MIN_VALUE, 0, 1}, {0, Integer.MIN_VALUE, Integer.MIN_VALUE}};
        KinkStreet x = rows();
        for (int[] w : wrong) {
            due.is("shift(0, " + w[0] + ", 1, " + w[1] + ", " + w[2] + ")", x.shift(0, w[0], 1, w[1], w[2]), -13);
            due.is("nothing came", digits(x, 1, 3), 0);
        }
    }

    private static void shiftRefusals() {
        due.says("n. BAD, -11 (either), -12 (no ROWS, or of unlike sorts), -13.");
        KinkStreet x = rows();
        int[][] wrong = {{6, 0, BAD}, {0, 6, BAD}, {-1, 0, BAD}, {0, -1, BAD}, {6, 4, BAD}, {4, 6, BAD}, {4, 0, -11},
            {0, 4, -11}, {4, 4, -11}, {4, 5, -11}, {3, 4, -11}, {4, 3, -11}, {3, 0, -12}, {0, 3, -12}, {3, 3, -12},
            {0, 2, -12}, {2, 0, -12}, {1, 2, -12}};
        int[] counts = {0, 1, -1, 99};
        for (int[] w : wrong) {
            for (int n : counts) {
                due.is("shift(" + w[0] + ", 0, " + w[1] + ", 0, " + n + ")", x.shift(w[0], 0, w[1], 0, n), w[2]);
                due.is("shift(" + w[0] + ", -1, " + w[1] + ", 99, " + n + ")", x.shift(w[0], -1, w[1], 99, n), w[2]);
            }
        }
        for (int one = 0; one <= 4; one++) {
            for (int other = 0; other <= 4; other++) {
                x.row(0, one, 2);
                x.row(1, other, 2);
                x.put(0, 1, 1);
                due.is("sorts " + one + " and " + other, x.shift(0, 0, 1, 0, 2), one == other ? 2 : -12);
                due.is("sorts " + one + " and " + other + ": what is there", x.element(1, 1), one == other ? 1 : 0);
            }
        }
    }

    private static void shiftSame() {
        due.says("(or the same) from j on, as they all were before");
        int[][] same = {{0, 1, 4, 11234}, {1, 0, 4, 23455}, {0, 2, 3, 12123}, {2, 0, 3, 34545}, {0, 0, 5, 12345},
            {1, 2, 2, 12235}, {2, 1, 2, 13445}, {4, 0, 1, 52345}};
        for (int[] s : same) {
            KinkStreet x = rows();
            due.is("shift(0, " + s[0] + ", 0, " + s[1] + ", " + s[2] + ")", x.shift(0, s[0], 0, s[1], s[2]), s[2]);
            due.is("what is there then", digits(x, 0, 5), s[3]);
        }
    }

    private static void taken() {
        due.promise(37);
        due.says("What a SHELF holds, taken for a LINE of KIND k (0 .. 7), or under it: its KIND. BAD, -11, -12.");
        int[][] under = {{0, 1, 2, 3, 4, 5, 6, 7}, {1, 5, 7}, {2}, {3, 4}, {4}, {5}, {6}, {7}};
        KinkStreet x = linesOfAllKinds(1);
        for (int kind = 0; kind < 8; kind++) {
            due.is("keep(5, " + kind + ")", x.keep(5, kind), 1);
            for (int k = 0; k < 8; k++) {
                boolean is = false;
                for (int u : under[k]) {
                    is |= u == kind;
                }
                due.is("kind " + kind + " taken for " + k, x.taken(5, k), is ? kind : -12);
            }
        }
        x.row(1, 2, 3);
        int[][] wrong = {{5, 8, BAD}, {5, -1, BAD}, {6, 0, BAD}, {-1, 0, BAD}, {0, 8, BAD}, {0, -1, BAD}, {1, 8, BAD},
            {5, Integer.MAX_VALUE, BAD}, {5, Integer.MIN_VALUE, BAD}};
        for (int[] w : wrong) {
            due.is("taken(" + w[0] + ", " + w[1] + ")", x.taken(w[0], w[1]), w[2]);
        }
        for (int k = 0; k < 8; k++) {
            due.is("nothing taken for " + k, x.taken(0, k), -11);
            due.is("a row taken for " + k, x.taken(1, k), -12);
        }
    }

    private static void count() {
        due.promise(38);
        due.says("How many: 0 STREETS, 1 DEEDS, 2 LAWS, 3 bytes on THE TAPE, 4 bends, 5 changes that may be UNDONE, 6 LINES, 7 bodies that ran in the latest act() (all, kept or not). BAD.");
        KinkStreet x = new KinkStreet();
        int[] wrong = {-1, 8, Integer.MIN_VALUE, Integer.MAX_VALUE};
        for (int what : wrong) {
            due.is("count(" + what + ")", x.count(what), BAD);
        }
        int[] want = new int[8];
        counted(x, want);
        x.street();
        x.street();
        x.street();
        want[0] = 3;
        counted(x, want);
        x.deed(10, 5);
        x.stands(0, 0);
        want[1] = 2;
        counted(x, want);
        Due.law(x, "1");
        want[2] = 1;
        counted(x, want);
        x.feed(4, 0);
        want[3] = 4;
        counted(x, want);
        x.bend(10);
        x.bend(1);
        want[4] = 2;
        counted(x, want);
        x.plot(0, 5, 99000);
        x.mend(0, 0, 6);
        x.mend(0, 0, 7);
        want[5] = 2;
        counted(x, want);
        x.undo();
        want[5] = 1;
        counted(x, want);
        x.body(4);
        want[6] = 1;
        counted(x, want);
        x.act(0, 3, 1);
        want[7] = 8;
        counted(x, want);
        x.town(2100, 0, 0);
        want[0] = 4;
        counted(x, want);
        x.burn();
        want[1] = 0;
        counted(x, want);
    }

    private static void counted(KinkStreet x, int[] want) {
        for (int what = 0; what < 8; what++) {
            due.is("count(" + what + ")", x.count(what), want[what]);
        }
    }

    /** An object in which all that can be full is full. */
    private static KinkStreet full() {
        KinkStreet x = new KinkStreet();
        for (int s = 0; s < 6; s++) {
            x.street();
        }
        for (int p = 0; p < 40; p++) {
            x.plot(0, 10, 99000);
        }
        for (int i = 0; i < 4; i++) {
            Due.law(x, "0");
        }
        for (int i = 0; i < 10; i++) {
            x.deed(10 * (i % 6) + 6, 5);
        }
        for (int i = 0; i < 30; i++) {
            x.feed(4, -1);
        }
        for (int i = 0; i < 50; i++) {
            x.body(0);
        }
        x.row(0, 0, 3);
        x.row(1, 1, 3);
        x.keep(2, 0);
        x.act(0, 0, 0);
        return x;
    }

    private static void severalRefusals() {
        due.promise(38);
        due.says("Answers, of several the one named first: BAD (-1): no such number, or it is not as said; NOT (-2): as told; FULL (-3); BIG (-4); STATE (-5): as told; -11 to -14.");
        KinkStreet x = full();
        due.is("plot: BAD, FULL", x.plot(0, 0, 99000), BAD);
        due.is("plot: FULL", x.plot(0, 1, 99000), FULL);
        due.is("deed: BAD, FULL", x.deed(11, 5), BAD);
        due.is("deed: FULL", x.deed(12, 5), FULL);
        due.is("stands: BAD, FULL", x.stands(8, 5), BAD);
        due.is("stands: FULL", x.stands(7, 5), FULL);
        due.is("all: BAD, BIG", x.all(0, 100, -1), BAD);
        due.is("all: BIG", x.all(0, 99, -1), KinkStreet.BIG);
        due.is("all: BIG, NOT", x.all(1, 99, -1), KinkStreet.BIG);
        due.is("feed: BAD, FULL", x.feed(5, 0), BAD);
        due.is("feed: FULL", x.feed(1, 0), FULL);
        due.is("law: FULL", x.law(), FULL);
        due.is("town: BAD, FULL", x.town(1001, 0, 0), BAD);
        due.is("town: FULL", x.town(2001, 0, 0), FULL);
        due.is("body: BAD, FULL", x.body(8), BAD);
        due.is("body: FULL", x.body(7), FULL);
        due.is("first: BAD, NOT", x.first(0, 999, 0), BAD);
        due.is("first: NOT", x.first(0, 99900, 0), KinkStreet.NOT);
        due.is("led: BAD, NOT", x.led(40, 99900), BAD);
        due.is("led: NOT", x.led(39, 99900), KinkStreet.NOT);
        due.is("wall: BAD, NOT", x.wall(0, 5, 3), BAD);
        due.is("wall: NOT", x.wall(0, 5, 2), KinkStreet.NOT);
        due.is("dig: BAD, NOT", x.dig(11), BAD);
        due.is("dig: NOT", x.dig(12), KinkStreet.NOT);
        due.is("row: BAD, -14", x.row(0, 5, -1), BAD);
        due.is("row: -14", x.row(0, 4, -1), -14);
        due.is("plots: BAD, -12", x.plots(0, 0, 0, 0), BAD);
        due.is("plots: -12", x.plots(0, 0, 0, 1), -12);
    }

    private static void nothingChanges() {
        due.says("What is answered so changes nothing.");
        for (long answer : refused(full())) {
            due.holds("refused: " + answer, answer < 0);
        }
        KinkStreet x = full();
        int refused = refused(x).length;
        due.is("10 deeds", x.burn(), 10);
        due.holds("all is as it was", Seen.of(() -> {
            KinkStreet y = full();
            refused(y);
            return y;
        }, 160 + refused).equals(Seen.of(ShelfSentencesTest::full, 160)));
    }

    private static long[] refused(KinkStreet x) {
        return new long[] {x.street(), x.plot(0, 1, 99000), x.plot(1, 0, 99000), x.plot(1, 1, 99999999), x.plots(0, 0, 0, 1),
            x.plots(1, 2, 0, 1), x.plots(1, 1, 0, 21), x.mend(0, 0, 0), x.mend(0, 2, 1), x.bend(11), x.bend(16),
            x.deed(11, 5), x.deed(10, 5), x.stands(0, 40), x.stands(0, 4), x.feed(0, 1), x.feed(4, 1), x.law(),
            x.town(2000, 0, 0), x.town(2001, 0, 0), x.undo(), x.redo(), x.body(8), x.body(0), x.keep(6, 0), x.keep(0, 50),
            x.row(0, 5, 3), x.row(0, 0, 61), x.row(0, 0, -1), x.put(0, 3, 1), x.put(2, 0, 1), x.put(3, 0, 1),
            x.shift(0, 0, 1, 0, 1), x.shift(0, 0, 0, 1, 3), x.shift(0, 0, 3, 0, 1), x.taken(0, 0), x.trace(5), x.count(8)};
    }

    private static void constants() {
        due.promise(1);
        due.says("public static final int BAD = -1, NOT = -2, FULL = -3, BIG = -4, STATE = -5, VOID = -2000000000;");
        int[] constants = {KinkStreet.BAD, KinkStreet.NOT, KinkStreet.FULL, KinkStreet.BIG, KinkStreet.STATE};
        for (int i = 0; i < constants.length; i++) {
            due.is("constant " + i, constants[i], -1 - i);
        }
        due.says("VOID is -2000000000.");
        due.is("VOID", KinkStreet.VOID, -2000000000);
        due.is("of no street", new KinkStreet().of(0, 0), -2000000000);
        due.is("mend of no street", new KinkStreet().mend(0, 0, 1), -2000000000);
    }

    private static void hostRefusals() {
        due.promise(34);
        due.says("The host's REFUSALS: -11 nothing is there where something is wanted; -12 it is of another kind; -13 a place that is not there; -14 a size below 0.");
        KinkStreet x = rows();
        due.is("put where nothing is", x.put(4, 9, 1), -11);
        due.is("put where a line is", x.put(3, 9, 1), -12);
        due.is("put behind the end", x.put(0, 9, 1), -13);
        due.is("shift from nothing to a line", x.shift(4, 9, 3, 9, 9), -11);
        due.is("shift from a line", x.shift(3, 9, 0, 9, 9), -12);
        due.is("shift behind the end", x.shift(0, 9, 1, 9, 9), -13);
        due.is("take from nothing", x.taken(4, 0), -11);
        due.is("take from a row", x.taken(0, 0), -12);
        due.is("plots from nothing: the row is missing", Due.street(10).plots(0, 0, 0, 1), 0);
        due.is("a row of -1", x.row(0, 2, -1), -14);
        due.is("a row of -60", x.row(4, 0, -60), -14);
        due.is("nothing came of it", x.put(4, 0, 1), -11);
    }
}
