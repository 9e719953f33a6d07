/** Promises 22 to 28: laws, towns, changes undone. */
public final class TownsTest {
    private static final Due due = new Due("TownsTest");

    public static void main(String[] args) {
        feed();
        law();
        faults();
        meanings();
        town();
        story();
        dig();
        undo();
        manyChanges();
        due.end();
    }

    static int feedText(KinkStreet x, String text) {
        int has = 0;
        for (int i = 0; i < text.length(); i += 4) {
            int n = Math.min(4, text.length() - i);
            int v = 0;
            for (int k = 0; k < n; k++) {
                v |= text.charAt(i + k) << 8 * k;
            }
            has = x.feed(n, v);
        }
        return has;
    }

    private static int lawOf(KinkStreet x, String text) {
        feedText(x, text);
        return x.law();
    }

    private static void feed() {
        due.promise(22);
        KinkStreet x = new KinkStreet();
        due.is("n 0", x.feed(0, 49), KinkStreet.BAD);
        due.is("n 5", x.feed(5, 49), KinkStreet.BAD);
        due.is("n -1", x.feed(-1, 49), KinkStreet.BAD);
        due.is("2 bytes", x.feed(2, '1' | '+' << 8 | '*' << 16), 2);
        due.is("count(3)", x.count(3), 2);
        due.is("1 byte", x.feed(1, '2'), 3);
        due.is("the lowest first: 1+2 is a text", x.law(), 0);
        due.is("count(3)", x.count(3), 0);
        for (int i = 1; i <= 29; i++) {
            due.is("4 bytes", x.feed(4, 0), 4 * i);
        }
        due.is("3 bytes", x.feed(3, 0), 119);
        due.is("2 more are too many", x.feed(2, 0), KinkStreet.FULL);
        due.is("n 5", x.feed(5, 0), KinkStreet.BAD);
        due.is("1 more", x.feed(1, -1), 120);
        due.is("1 more", x.feed(1, 0), KinkStreet.FULL);
        due.is("count(3)", x.count(3), 120);
        due.is("byte 0 is no text", x.law(), -100);
        due.is("byte 255 is no text", x.feed(1, -1), 1);
        due.is("byte 255 is no text", x.law(), -100);
    }

    private static void law() {
        due.promise(23);
        KinkStreet x = new KinkStreet();
        for (int i = 0; i < 4; i++) {
            due.is("a law", lawOf(x, "w"), i);
        }
        x.feed(1, 'w');
        due.is("a fifth", x.law(), KinkStreet.FULL);
        due.is("the tape stays", x.count(3), 1);
        due.is("count(2)", x.count(2), 4);
    }

    private static void faults() {
        due.promise(23);
        Object[][] texts = {{"", 0}, {"w;", 2}, {";w", 0}, {"w;;w", 2}, {"w ", 1}, {"w?", 2}, {"w?w?w", 3}, {"?w", 0},
            {"(w?w)", 2}, {"(w", 2}, {"(w;w)", 2}, {")", 0}, {"w)", 1}, {"()", 1}, {"w<n<d", 3}, {"w<n=d", 3},
            {"12345", 4}, {"1w", 1}, {"w1", 1}, {"ww", 1}, {"w(1)", 1}, {"w!1", 1}, {"w+*1", 2}, {"+w", 0}, {"w+", 2},
            {"w|", 2}, {"|w", 0}, {"w||w", 2}, {"a", 0}, {"W", 0}, {"w!=1", 1}, {"w<>1", 2}, {"1?(((((((w", 8}, {"((((((w", 7},
            {"(((((((", 6}, {"!!!!!!!w", 6}, {"------(w", 6}, {"w;w?w;w&", 8}, {"(((((((w)))))))", 6}};
        KinkStreet x = new KinkStreet();
        for (Object[] t : texts) {
            due.is("law " + t[0], lawOf(x, (String) t[0]), -100 - (Integer) t[1]);
            due.is("the tape is empty", x.count(3), 0);
        }
        String[] right = {"w<n&d=y|z>f", "((((((w))))))+!!!!!!i--c", "0?1;2?3", "1?((((((w))))))", "1?!-!-!-w", "(1<2)<(3<4)", "1<2&3<4|5=6", "-1-----1",
            "9999*0000/1%2", "(-(!(1))+(!(-(2))))"};
        for (int i = 0; i < right.length; i++) {
            KinkStreet y = new KinkStreet();
            due.is("law " + right[i], lawOf(y, right[i]), 0);
        }
        StringBuilder longest = new StringBuilder();
        for (int i = 0; i < 60; i++) {
            longest.append(i == 0 ? "1" : "+1");
        }
        longest.append("+");
        due.is("120 bytes, too early at an end", lawOf(x, longest.toString()), -220);
        due.is("119 bytes", lawOf(x, longest.substring(0, 119)), 0);
    }

    /** In the one YEAR of such a TOWN the law's answer 3 makes one KINK, if the draw is not PLOT 0. */
    private static int answerIsThree(String expression) {
        KinkStreet x = new KinkStreet();
        if (lawOf(x, expression) != 0) {
            return -100;
        }
        // z = 12345 + 1103515245 after SEED 1: its PLOT of 39 is not 0.
        x.town(39200, 1, 1);
        return x.of(0, 2);
    }

    private static void meanings() {
        due.promise(24);
        int z = 1103515245 + 12345;
        int place = (z >>> 8) % 39;
        int draw = ((z * 1103515245 + 12345) >>> 8) % 100;
        due.holds("the seed suits", place > 0);
        String[] three = {"3", "1+2", "9-3*2", "(9-3)/2", "7%4", "0-7/2+6", "-(7/2)+6", "-7%4+6", "1/0+3", "1%0+3", "!0+!0+!0",
            "!5+3", "3*(2<3)", "3*(3>2)", "3*(2=2)", "3+(2<2)", "3+(2>2)", "3+(2=3)", "(1|0)+(0|2)+(5&6)", "3+(0|0)",
            "3+(0&1)", "(1|1)*3", "0?1;3", "1?3;1", "0;3?9", "0?3;0?3;3", "2-1?3;4", "w-197", "n-197", "d-97", "y+3",
            "f+2", "c-36", "--3", "5-2", "5--2-4", "2*-1+5", "1+2<4&1?3;0", "0|3>2?3;0", "1=1=1", "(1=1)+2",
            "9999*9999*9999<0?3;4", "20000000"};
        for (String t : three) {
            boolean right = !t.equals("0;3?9") && !t.equals("1=1=1") && !t.equals("20000000");
            due.is(t, answerIsThree(t), t.equals("0;3?9") ? 0 : right ? 1 : -100);
        }
        due.is("i", answerIsThree("i=" + place + "?3;0"), 1);
        due.is("z", answerIsThree("z=" + draw + "?3;0"), 1);
        due.is("no line counts", answerIsThree("0?3"), 0);
        due.is("no line counts", answerIsThree("0?3;w<0?3"), 0);
        due.is("4 is nothing", answerIsThree("4"), 0);
        due.is("-3 is nothing", answerIsThree("-3"), 0);
        due.is("the first line without a condition counts", answerIsThree("0;3"), 0);
        due.is("wraps: the least int by -1", answerIsThree(least() + "/-1=" + least() + "?3;0"), 1);
        due.is("wraps: the least int % -1", answerIsThree(least() + "%-1+3"), 1);
        due.is("wraps: - of the least int", answerIsThree("-" + least() + "=" + least() + "?3;0"), 1);
    }

    /** 4096 * 8192 * 64 is 2 to the 31st. */
    private static String least() {
        return "(4096*8192*64)";
    }

    private static void town() {
        due.promise(24);
        KinkStreet x = new KinkStreet();
        due.is("no law", x.town(2100, 0, 0), KinkStreet.BAD);
        lawOf(x, "1");
        lawOf(x, "2");
        lawOf(x, "3");
        due.is("no years", x.town(3100, 0, 9), 0);
        due.is("plots", x.of(0, 0), 3);
        due.is("width", x.of(0, 102), 100);
        due.is("depth", x.of(0, 202), 100);
        due.is("kinks", x.of(0, 2), 0);
        due.is("joins", x.town(2100, 60, 5), 1);
        due.is("one is left", x.of(1, 0), 1);
        due.is("its width", x.of(1, 100), 200);
        due.is("joins up to 999", x.town(2499, 60, 5), 2);
        due.is("one is left", x.of(2, 100), 998);
        due.is("not above 999", x.town(2500, 60, 5), 3);
        due.is("two are left", x.of(3, 0), 2);
        due.is("parts", x.town(2003, 160, 5), 4);
        due.is("six of 1", x.of(4, 0), 6);
        due.is("six of 1", x.of(4, 1), 6);
        due.is("asides", x.town(2100, 260, 5), 5);
        due.is("plot 0 stays", x.of(5, 300), 0);
        due.is("plot 1 at most 99", x.of(5, 301), 99);
        due.is("full", x.town(2100, 260, 5), KinkStreet.FULL);
        due.is("full, no such law", x.town(2100, 360, 5), KinkStreet.BAD);
        int[][] wrong = {{1100, 0}, {40100, 0}, {2000, 0}, {-1, 0}, {2100, 61}, {2100, 199}, {2100, 300}, {2100, -1}};
        KinkStreet y = new KinkStreet();
        lawOf(y, "1");
        lawOf(y, "1");
        for (int[] w : wrong) {
            due.is("town(" + w[0] + ", " + w[1] + ", 0)", y.town(w[0], w[1], 0), KinkStreet.BAD);
        }
        due.is("count(0)", y.count(0), 0);
        partsInHalves();
        edgesOfWidth();
        asidesMove();
        joinTakesTheAside();
    }

    private static void partsInHalves() {
        KinkStreet x = new KinkStreet();
        lawOf(x, "y=0?2;0");
        x.town(2005, 1, 5);
        int plot = ((5 * 1103515245 + 12345) >>> 8) % 2;
        due.is("three", x.of(0, 0), 3);
        due.is("the first half is cut", x.of(0, 100 + plot), 2);
        due.is("the second half", x.of(0, 101 + plot), 3);
        due.is("its depth", x.of(0, 201 + plot), 100);
        lawOf(x, "2");
        x.town(39999, 160, 8);
        due.is("40 at most", x.of(1, 0), 40);
        due.is("their widths are as they were", x.of(1, 1), 39 * 999);
    }

    private static void edgesOfWidth() {
        KinkStreet x = new KinkStreet();
        lawOf(x, "1");
        x.town(3333, 60, 5);
        due.is("joins up to 999", x.of(0, 100), 999);
        due.is("a width of 1", x.town(2001, 0, 5), 1);
        due.is("joins two of 1", x.town(2001, 60, 5), 2);
        due.is("2", x.of(2, 100), 2);
    }

    /** Of 6 PLOTS all that are not the first stand ASIDE by the 40th YEAR; what comes then moves those behind it. */
    private static void asidesMove() {
        KinkStreet x = new KinkStreet();
        lawOf(x, "y<40?3;y=40?1;0");
        lawOf(x, "y<40?3;y=40?2;0");
        lawOf(x, "y<40?3;0");
        int z = 2;
        for (int draw = 0; draw < 81; draw++) {
            z = z * 1103515245 + 12345;
        }
        int plot = (z >>> 8) % 6;
        x.town(6100, 41, 2);
        x.town(6100, 141, 2);
        x.town(6100, 241, 2);
        due.holds("the seed suits: " + plot, plot > 0 && plot < 4 && x.of(2, 2) == 5);
        due.is("joined", x.of(0, 0), 5);
        due.is("parted", x.of(1, 0), 7);
        for (int p = 0; p < 6; p++) {
            int aside = x.of(2, 300 + p);
            int joined = p <= plot ? p : p - 1;
            if (p != plot + 1) {
                due.is("joined: aside of " + p, x.of(0, 300 + joined), aside);
                due.is("joined: width of " + p, x.of(0, 100 + joined), p == plot ? 200 : 100);
            }
            int parted = p <= plot ? p : p + 1;
            due.is("parted: aside of " + p, x.of(1, 300 + parted), aside);
            due.is("parted: width of " + p, x.of(1, 100 + parted), p == plot ? 50 : 100);
        }
        due.is("the second half is not aside", x.of(1, 301 + plot), 0);
    }

    private static void joinTakesTheAside() {
        KinkStreet x = new KinkStreet();
        lawOf(x, "y<40?3;1");
        x.town(3100, 59, 2);
        due.is("one plot is left", x.of(0, 0), 1);
        due.is("no kink is left", x.of(0, 2), 0);
    }

    private static void story() {
        due.promise(25);
        KinkStreet x = new KinkStreet();
        x.street();
        due.is("no laws", x.story(0, 2100, 0, -1), KinkStreet.STATE);
        due.is("no laws, law 0", x.story(0, 2100, 0, 0), KinkStreet.BAD);
        lawOf(x, "0");
        lawOf(x, "2");
        lawOf(x, "2");
        x.plot(0, 10, 99000);
        x.plot(0, 10, 99000);
        due.is("nothing comes to pass", x.story(0, 2100, 60, 0), 20);
        due.is("each year parts", x.story(0, 2100, 1, 1), 0);
        due.is("no years", x.story(0, 2100, 0, 1), 20);
        due.is("the first of like ones", x.story(0, 2100, 0, -1), 0);
        x.plot(0, 10, 99000);
        due.is("each year parts", x.story(0, 2100, 1, 1), 20);
        due.is("the first with the most", x.story(0, 2100, 1, -1), 1);
        x.plot(0, 10, 100000);
        due.is("a kink more", x.story(0, 2100, 2, 1), 0);
        due.is("all have none: the first", x.story(0, 2100, 2, -1), 0);
        due.is("nothing of it is kept", x.count(0), 1);
        int[][] wrong = {{1, 2100, 0, 0}, {-1, 2100, 0, 0}, {0, 1100, 0, 0}, {0, 2000, 0, 0}, {0, 40001, 0, 0},
            {0, 2100, 61, 0}, {0, 2100, -1, 0}, {0, 2100, 0, 3}, {0, 2100, 0, -2}};
        for (int[] w : wrong) {
            due.is("story(" + w[0] + ", " + w[1] + ", " + w[2] + ", " + w[3] + ")", x.story(w[0], w[1], w[2], w[3]),
                KinkStreet.BAD);
        }
    }

    private static void dig() {
        due.promise(26);
        KinkStreet x = new KinkStreet();
        int[][] streets = {{100, 50, 50, 100}, {150, 50}, {100, 100, 100}, {}, {300}, {100, 50, 50, 900}};
        for (int s = 0; s < streets.length; s++) {
            x.street();
            for (int w : streets[s]) {
                x.plot(s, w, 99000);
            }
        }
        int[][] want = {{1, 100}, {10, KinkStreet.NOT}, {2, 150}, {20, KinkStreet.NOT}, {3, 100}, {30, KinkStreet.NOT},
            {4, 100}, {40, KinkStreet.NOT}, {5, KinkStreet.NOT}, {50, KinkStreet.NOT}, {12, 150}, {21, 100}, {24, 100}};
        for (int[] w : want) {
            due.is("dig(" + w[0] + ")", x.dig(w[0]), w[1]);
        }
        int[] wrong = {0, 55, 6, 60, -1, -10, 100};
        for (int w : wrong) {
            due.is("dig(" + w + ")", x.dig(w), KinkStreet.BAD);
        }
    }

    private static void undo() {
        KinkStreet x = new KinkStreet();
        x.street();
        x.plot(0, 10, 99050);
        x.plot(0, 20, 99060);
        due.promise(27);
        due.is("undo, none", x.undo(), KinkStreet.STATE);
        x.mend(0, 0, 11);
        x.mend(1, 1, 61);
        x.mend(1, 2, 5);
        due.is("undo", x.undo(), 2);
        due.is("aside", x.of(0, 301), 0);
        due.is("undo", x.undo(), 1);
        due.is("depth", x.of(0, 201), 60);
        due.is("count(5)", x.count(5), 1);
        due.promise(28);
        due.is("redo", x.redo(), 1);
        due.is("depth", x.of(0, 201), 61);
        due.is("the same number is no change", x.mend(1, 0, 20), 20);
        due.is("a plot is no change", x.plot(0, 30, 99000), 2);
        due.is("redo", x.redo(), 0);
        due.is("aside", x.of(0, 301), 5);
        due.is("redo, none", x.redo(), KinkStreet.STATE);
        due.is("undo", x.undo(), 2);
        x.mend(1, 0, 21);
        due.is("another one came behind", x.redo(), KinkStreet.STATE);
        due.is("aside", x.of(0, 301), 0);
        due.promise(27);
        due.is("undo", x.undo(), 2);
        due.is("undo", x.undo(), 1);
        due.is("undo", x.undo(), 0);
        due.is("undo, none", x.undo(), KinkStreet.STATE);
        due.is("width", x.of(0, 100), 10);
        due.is("width", x.of(0, 101), 20);
        due.is("depth", x.of(0, 201), 60);
    }

    private static void manyChanges() {
        KinkStreet x = new KinkStreet();
        x.street();
        x.plot(0, 10, 99050);
        for (int i = 1; i <= 45; i++) {
            x.mend(0, 1, 100 + i);
        }
        due.promise(27);
        due.is("40 are kept", x.count(5), 40);
        for (int i = 1; i <= 40; i++) {
            due.is("undo", x.undo(), 40 - i);
        }
        due.is("undo, none", x.undo(), KinkStreet.STATE);
        due.is("depth", x.of(0, 200), 105);
        due.promise(28);
        for (int i = 1; i <= 40; i++) {
            due.is("redo", x.redo(), 40 - i);
            due.is("depth", x.of(0, 200), 105 + i);
        }
        due.is("redo, none", x.redo(), KinkStreet.STATE);
    }
}
