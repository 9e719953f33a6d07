import java.util.ArrayList;
import java.util.List;

/**
 * Runs of 512 calls, as many as an object is used for. One is told by hand: it goes through all promises, till all that
 * can be full is full, and each of its answers follows from the document by little more than counting. Others are drawn.
 */
public final class LongRunsTest {
    private static final Due due = new Due("LongRunsTest");
    private static final int BAD = KinkStreet.BAD, NOT = KinkStreet.NOT, FULL = KinkStreet.FULL, STATE = KinkStreet.STATE;

    private final KinkStreet x = new KinkStreet();
    private int calls;

    public static void main(String[] args) {
        new LongRunsTest().toldRun();
        for (long seed = 1000; seed < 1025; seed++) {
            sideBySide(new DrawnRun(seed), new DrawnRun(seed + 500000));
            withoutRefused(new DrawnRun(seed));
        }
        due.end();
    }

    private void is(String call, long got, long want) {
        calls++;
        due.is(call + ", call " + calls, got, want);
    }

    private void toldRun() {
        nothingYet();
        fortyPlots();
        rods();
        firstPlots();
        wallsAndMarkets();
        plotsFromARow();
        laws();
        towns();
        bends();
        deeds();
        changes();
        lines();
        shelves();
        theEnd();
        due.is("calls of the told run", calls, Call.MOST);
    }

    private void nothingYet() {
        due.promise(1);
        for (int what = 0; what <= 7; what++) {
            is("count(" + what + ") of a new object", x.count(what), 0);
        }
        due.promise(2);
        is("street", x.street(), 0);
        is("street", x.street(), 1);
    }

    /** 40 PLOTS, ten feet wide, with KINKS at 10, 20 and 30. */
    private void fortyPlots() {
        due.promise(3);
        for (int p = 0; p < 40; p++) {
            int aside = p == 10 || p == 30 ? 5 : p == 20 ? -5 : 0;
            is("plot", x.plot(0, 100, 1000 * (99 + aside) + (p < 20 ? 90 : 110)), p);
        }
        is("a 41st plot", x.plot(0, 100, 99090), FULL);
        due.promise(6);
        is("how many plots", x.of(0, 0), 40);
        is("sum of widths", x.of(0, 1), 4000);
        is("kinks", x.of(0, 2), 3);
        is("at of the last plot", x.of(0, 439), 3900);
        is("of a 41st plot", x.of(0, 140), KinkStreet.VOID);
    }

    private void rods() {
        due.promise(7);
        is("misfit by 100", x.misfit(0, 39, 1001), 0);
        is("misfit by 80 in 4 parts: 400 are 5 of them", x.misfit(0, 39, 804), 0);
        is("misfit by 150: 50 from it, each", x.misfit(0, 39, 1501), 333);
        due.promise(8);
        is("the greatest rod that 100 is a multiple of", x.rod(0, 39, 1, 0), 100);
        is("the greatest rod that 400 is a multiple of", x.rod(0, 39, 4, 0), 200);
        is("its misfit", x.rod(0, 39, 4, 1), 0);
        due.promise(9);
        is("40 widths by chance go by no rod so well", x.chance(0, 39, 105, 1), 0);
    }

    private void firstPlots() {
        due.promise(10);
        int[][] parted = {{10000, 0, 40, 40}, {20000, 20, 20, 20}, {5000, 40, 40, 80}, {30000, NOT, NOT, NOT}};
        for (int[] p : parted) {
            for (int what = 0; what <= 2; what++) {
                is("first(0, " + p[0] + ", " + what + ")", x.first(0, p[0], what), p[1 + what]);
            }
        }
        due.promise(11);
        is("of the last plot, two from one", x.led(39, 20000), 19);
        is("of the last plot, one from two", x.led(39, 5000), 78);
        is("40 are not three by three", x.led(0, 30000), NOT);
        due.promise(12);
        is("all are alike: the price of one", x.pieces(0, 50, -2), 50);
        is("one piece", x.pieces(0, 50, -1), 1);
        is("it begins at 0", x.pieces(0, 50, 0), 0);
        is("there is no other", x.pieces(0, 50, 1), BAD);
    }

    private void wallsAndMarkets() {
        due.promise(15);
        is("deeper than 100: from 20 on", x.wall(0, 100, 0), 20);
        is("20 plots", x.wall(0, 100, 1), 2000);
        is("none is less deep than the first", x.wall(0, 100, 2), 20);
        is("deeper than 110", x.wall(0, 110, 0), NOT);
        is("deeper than -1: all", x.wall(0, -1, 1), 4000);
        due.promise(16);
        is("+ - +", x.furrow(0), 2);
        due.promise(17);
        is("10 of 40", x.market(0, 1019), 250);
        is("all of 40", x.market(0, 39), 1000);
    }

    /** STREET 1 becomes 40 PLOTS of twenty feet, from a ROW of 20 threes. */
    private void plotsFromARow() {
        due.promise(4);
        is("row", x.row(0, 1, 60), 1);
        for (int i = 0; i < 60; i++) {
            is("put", x.put(0, i, i % 3 == 0 ? 200 : i % 3 == 1 ? 50 : 0), 1);
        }
        is("20 plots", x.plots(1, 0, 0, 20), 20);
        is("all but the first", x.plots(1, 0, 3, 20), 19);
        is("one more goes", x.plots(1, 0, 3, 20), 1);
        is("none goes", x.plots(1, 0, 3, 20), 0);
        is("sum of widths", x.of(1, 1), 8000);
    }

    /** LAW 0 gives 70 (11 and 59 times 1, in 120 bytes); the others give 1 to 3. */
    private void laws() {
        due.promise(22);
        is("feed", x.feed(4, '1' | '1' << 8 | '+' << 16 | '1' << 24), 4);
        for (int bytes = 8; bytes <= 120; bytes += 4) {
            is("feed", x.feed(4, '+' | '1' << 8 | '+' << 16 | '1' << 24), bytes);
        }
        is("a byte more", x.feed(1, '1'), FULL);
        due.promise(23);
        is("law", x.law(), 0);
        is("no byte", x.law(), -100);
        for (int law = 1; law <= 3; law++) {
            is("feed", x.feed(1, '0' + law), 1);
            is("law", x.law(), law);
        }
        is("feed", x.feed(1, '0'), 1);
        is("a fifth law", x.law(), FULL);
        is("it stays", x.count(3), 1);
    }

    /** A SEED of 0 draws 12345 first: 12345 >>> 8 is 48, which is PLOT 9 of 39, and PLOT 0 of 2. */
    private void towns() {
        due.promise(24);
        is("70 is nothing", x.town(39001, 60, 7), 2);
        is("one is parted each year", x.town(2999, 209, 7), 3);
        is("9 is joined with 10", x.town(39025, 101, 0), 4);
        is("9 comes aside", x.town(39025, 301, 0), 5);
        is("a seventh street", x.town(39025, 301, 0), FULL);
        is("a seventh street", x.street(), FULL);
        is("of town 2", x.of(2, 0), 39);
        is("of town 3", x.of(3, 0), 11);
        is("of town 3, all", x.of(3, 1), 1998);
        is("of town 4", x.of(4, 0), 38);
        is("of town 4, 9", x.of(4, 109), 50);
        is("of town 5, 9", x.of(5, 309), 5);
        is("of town 5", x.of(5, 2), 1);
        due.promise(25);
        is("parted nine times by each seed", x.story(3, 2999, 9, 2), 20);
        is("by 70 no seed", x.story(3, 2999, 9, 0), 0);
        is("the law that parts", x.story(3, 2999, 9, -1), 2);
        due.promise(26);
        is("ends of tens that are none of twenties", x.dig(1), 100);
        is("ends of twenties that are none of tens: those behind its end", x.dig(10), 4200);
        is("25 and so on: all ends that are there in the other too", x.dig(45), NOT);
        is("behind 9: 10 is joined", x.dig(54), 250);
    }

    private void bends() {
        due.promise(13);
        int told = 0;
        for (int one = 0; one < 6; one++) {
            for (int other = 0; other < 6; other++) {
                if (one != other) {
                    is("bend", x.bend(10 * one + other), ++told);
                }
            }
        }
        is("it is told", x.bend(54), BAD);
        due.promise(14);
        is("none is first", x.order(0), NOT);
        is("a ring", x.order(-1), 0);
    }

    private void deeds() {
        due.promise(18);
        for (int name = 1; name <= 4; name++) {
            is("ten feet on", x.deed(10 * name + name - 1, 10), name);
        }
        due.promise(21);
        is("one behind the other: from 0 .. 35 on", x.all(0, 0, -1), 36);
        is("first one's plot of name 4", x.all(0, 0, 4), 4);
        is("more than a million", x.all(0, 99, -1), 1000000);
        due.promise(19);
        is("stands", x.stands(2, 7), 5);
        is("one way", x.all(0, 0, -1), 1);
        is("two ahead of it", x.all(0, 0, 0), 5);
        for (int many = 6; many <= 10; many++) {
            is("the same once more", x.stands(2, 7), many);
        }
        is("an 11th", x.stands(2, 7), FULL);
        is("an 11th", x.deed(10, 10), FULL);
        is("still one way", x.all(0, 0, -1), 1);
        due.promise(20);
        is("burn", x.burn(), 10);
        is("no deeds", x.all(0, 0, -1), STATE);
    }

    private void changes() {
        due.promise(5);
        for (int w = 100; w < 141; w++) {
            is("a foot's tenth more", x.mend(0, 0, w + 1), w);
        }
        is("the same once more", x.mend(0, 0, 141), 141);
        due.promise(27);
        for (int left = 39; left >= 0; left--) {
            is("undo", x.undo(), left);
        }
        is("none is left", x.undo(), STATE);
        is("the first of 41 is not undone", x.of(0, 100), 101);
        due.promise(28);
        for (int left = 39; left >= 0; left--) {
            is("redo", x.redo(), left);
        }
        is("none is left", x.redo(), STATE);
        is("as it was", x.of(0, 1), 4041);
    }

    private void lines() {
        due.promise(29);
        for (int n = 0; n < 50; n++) {
            is("body", x.body(n % 8), n);
        }
        is("a 51st", x.body(0), FULL);
        due.promise(30);
        is("49 is laid under a line: 7 and 49, and 3", x.act(49, 0, 7), 59);
        is("its first body", x.trace(0), 20);
        is("its second body", x.trace(1), 1);
        is("its third body", x.trace(2), BAD);
        is("a line breaks: twice 7 and 48", x.act(48, 1, 7), 110);
        is("two bodies", x.count(7), 2);
    }

    private void shelves() {
        due.promise(32);
        is("a line where the row was", x.keep(0, 47), 1);
        due.promise(37);
        is("47 is awry", x.taken(0, 1), 7);
        is("it is no wall", x.taken(0, 3), -12);
        due.promise(36);
        is("no row", x.shift(0, 0, 0, 0, 1), -12);
        is("a row of bytes", x.row(5, 0, 3), 1);
        is("put", x.put(5, 0, 200), 1);
        is("one on", x.shift(5, 0, 5, 1, 2), 2);
        is("element", x.element(5, 1), -56);
    }

    /** What has come to be full is so still; the rest of the calls go to the depths of STREET 1. */
    private void theEnd() {
        due.promise(38);
        int[] counts = {6, 0, 4, 1, 30, 40, 50, 2};
        for (int what = 0; what <= 7; what++) {
            is("count(" + what + ")", x.count(what), counts[what]);
        }
        due.promise(6);
        is("how many plots", x.of(1, 0), 40);
        is("kinks", x.of(1, 2), 0);
        for (int p = 0; p < 40 && calls < Call.MOST; p++) {
            is("depth", x.of(1, 200 + p), 50);
        }
    }

    /** Two objects that are asked by turns answer as each does alone. */
    private static void sideBySide(DrawnRun one, DrawnRun other) {
        due.promise(1);
        KinkStreet x = new KinkStreet();
        KinkStreet y = new KinkStreet();
        for (int i = 0; i < Call.MOST; i++) {
            due.is(one.calls.get(i) + ", beside another object", one.calls.get(i).on(x), one.due.get(i));
            due.is(other.calls.get(i) + ", beside another object", other.calls.get(i).on(y), other.due.get(i));
        }
    }

    private static void withoutRefused(DrawnRun run) {
        due.promise(38);
        List<Call> taken = new ArrayList<>();
        List<Long> answers = new ArrayList<>();
        for (int i = 0; i < Call.MOST; i++) {
            if (!run.calls.get(i).isRefusedBy(run.due.get(i))) {
                taken.add(run.calls.get(i));
                answers.add(run.due.get(i));
            }
        }
        due.holds("some were refused", taken.size() < Call.MOST);
        due.holds("without the refused ones the others are answered alike", Call.all(taken, new KinkStreet()).equals(answers));
    }
}
