import java.util.Arrays;

/** Promises 24 to 28, sentence by sentence: TOWNS, STORIES, where to DIG, CHANGES undone and done again. */
public final class TownSentencesTest {
    private static final Due due = new Due("TownSentencesTest");
    private static final int BAD = KinkStreet.BAD, NOT = KinkStreet.NOT, FULL = KinkStreet.FULL, STATE = KinkStreet.STATE;

    public static void main(String[] args) {
        townArguments();
        townFull();
        townYears();
        townSeeds();
        joins();
        joinsAsides();
        parts();
        partsAsides();
        asides();
        storyArguments();
        storySeeds();
        storyBest();
        digEnds();
        digArguments();
        undone();
        doneAgain();
        kept();
        sameNumber();
        due.end();
    }

    private static KinkStreet laid(String law, int n, int width, int years, int seed) {
        KinkStreet x = new KinkStreet();
        due.is(law + " is a law", Due.law(x, law), 0);
        due.is("a town by " + law, x.town(1000 * n + width, years, seed), 0);
        return x;
    }

    /** A TOWN in as many YEARS as there are places, by a SEED that draws these, while there are so many PLOTS. */
    private static KinkStreet laid(String law, int width, int[] plots, int... places) {
        return laid(law, plots[0], width, places.length, Draws.seed(plots, places));
    }

    private static int[] facts(KinkStreet x, int street, int what) {
        int[] facts = new int[x.of(street, 0)];
        for (int p = 0; p < facts.length; p++) {
            facts[p] = x.of(street, 100 * what + p);
        }
        return facts;
    }

    private static void are(String call, KinkStreet x, int what, int... want) {
        int[] got = facts(x, 0, what);
        due.holds(call + ": " + Arrays.toString(got) + " and due are " + Arrays.toString(want), Arrays.equals(got, want));
    }

    private static void townArguments() {
        due.promise(24);
        due.says("A TOWN is laid: n PLOTS (2 .. 39) of a WIDTH, DEPTH 100;");
        int[] right = {2001, 2999, 39001, 39999};
        for (int nw : right) {
            KinkStreet x = laid("0", nw / 1000, nw % 1000, 60, 5);
            int[] widths = new int[nw / 1000];
            Arrays.fill(widths, nw % 1000);
            are("town(" + nw + ", ..)", x, 1, widths);
            Arrays.fill(widths, 100);
            are("town(" + nw + ", ..): depths", x, 2, widths);
            due.is("no kinks", x.of(0, 2), 0);
        }
        KinkStreet x = new KinkStreet();
        Due.law(x, "2");
        Due.law(x, "0");
        int[] wrong = {0, 1, 999, 1000, 1001, 1999, 2000, 39000, 40000, 40001, 40999, 41001, 100100, -1, -2001, -39001,
            Integer.MIN_VALUE, Integer.MAX_VALUE};
        for (int nw : wrong) {
            due.is("town(" + nw + ", 0, 0)", x.town(nw, 0, 0), BAD);
        }
        due.says("ly: 100 times the LAW, and YEARS.");
        int[] no = {61, 99, 161, 199, 200, 260, 300, 400, -1, -100, -101, Integer.MIN_VALUE, Integer.MAX_VALUE};
        for (int ly : no) {
            due.is("town(2100, " + ly + ", 0)", x.town(2100, ly, 0), BAD);
        }
        due.is("no town stands", x.count(0), 0);
        due.is("law 0, 60 years", x.town(2100, 60, 0), 0);
        due.is("law 0 parts", x.of(0, 0), 40);
        due.is("law 1, 60 years", x.town(2100, 160, 0), 1);
        due.is("law 1 doesn't", x.of(1, 0), 2);
        due.is("law 0, no years", x.town(2100, 0, 0), 2);
        due.is("nothing came to pass", x.of(2, 0), 2);
        due.is("law 0, 1 year", x.town(2100, 1, 0), 3);
        due.is("it parted once", x.of(3, 0), 3);
        due.is("no laws", new KinkStreet().town(2100, 0, 0), BAD);
    }

    private static void townFull() {
        due.says("by a LAW in YEARS by a SEED: its STREET's number. BAD, FULL.");
        KinkStreet x = new KinkStreet();
        for (int i = 0; i < 4; i++) {
            Due.law(x, "y=" + i + "?2;0");
        }
        x.street();
        for (int i = 0; i < 4; i++) {
            due.is("by law " + i, x.town(2100, 100 * i + 2, 0), i + 1);
            due.is("in 2 years", x.of(i + 1, 0), i < 2 ? 3 : 2);
        }
        due.is("a sixth street", x.street(), 5);
        due.is("a seventh", x.town(2100, 0, 0), FULL);
        due.is("a seventh, 61 years", x.town(2100, 61, 0), BAD);
        due.is("a seventh, law 4", x.town(2100, 400, 0), BAD);
        due.is("a seventh, 1 plot", x.town(1100, 0, 0), BAD);
        due.is("six", x.count(0), 6);
        due.says("else nothing. It is a STREET then.");
        due.is("a plot comes to it", x.plot(3, 50, 99000), 2);
        due.is("it is mended", x.mend(300, 0, 60), 100);
        due.is("it is no change that it was laid", x.undo(), 0);
        due.is("it is undone", x.of(3, 100), 100);
    }

    private static void townYears() {
        due.says("then YEARS (0 .. 60, from 0 on):");
        int[] years = {0, 1, 2, 59, 60};
        for (int y : years) {
            KinkStreet x = laid("y=" + y + "?2;0", 5, 100, y, 3);
            due.is("year " + y + " is not among " + y, x.of(0, 0), 5);
            if (y < 60) {
                x = laid("y=" + y + "?2;0", 5, 100, y + 1, 3);
                due.is("year " + y + " is among " + (y + 1), x.of(0, 0), 6);
            }
        }
        due.is("60 years: one each", laid("y<37?2;0", 2, 999, 60, 3).of(0, 0), 39);
        due.is("no year is below 0 or above 59", laid("y<0|y>59?2;0", 2, 999, 60, 3).of(0, 0), 2);
    }

    private static void townSeeds() {
        due.says("each one draws z: PLOT (z >>> 8) % PLOTS; then z again: draw (z >>> 8) % 100:");
        int[] seeds = {0, 1, -1, 5, 12345, Integer.MIN_VALUE, Integer.MAX_VALUE};
        for (int seed : seeds) {
            KinkStreet x = laid("2", 38, 200, 2, seed);
            int first = Draws.plot(seed, 0, 38);
            int second = Draws.plot(seed, 1, 39);
            int[] one = new int[39];
            Arrays.fill(one, 200);
            one[first] = 100;
            one[first + 1] = 100;
            int[] two = new int[40];
            System.arraycopy(one, 0, two, 0, second + 1);
            System.arraycopy(one, second, two, second + 1, 39 - second);
            two[second] = one[second] / 2;
            two[second + 1] = one[second] / 2;
            are("parted twice by seed " + seed, x, 1, two);
            for (int year = 0; year < 60; year += 59) {
                x = laid("y=" + year + "&z=" + Draws.draw(seed, year) + "?2;0", 2, 200, 60, seed);
                due.is("the draw of year " + year, x.of(0, 0), 3);
                x = laid("y=" + year + "&!(z=" + Draws.draw(seed, year) + ")?2;0", 2, 200, 60, seed);
                due.is("no other draw of year " + year, x.of(0, 0), 2);
            }
        }
    }

    private static void joins() {
        due.says("1: that PLOT JOINS the next one (if there is one: WIDTHS together, at most 999, else nothing; DEPTH of the first; the next one's ASIDE goes);");
        are("the first one", laid("1", 100, new int[] {3}, 0), 1, 200, 100);
        are("the second one", laid("1", 100, new int[] {3}, 1), 1, 100, 200);
        are("the last one has no next one", laid("1", 100, new int[] {3}, 2), 1, 100, 100, 100);
        are("its depth", laid("1", 100, new int[] {3}, 1), 2, 100, 100);
        are("499 and 499", laid("1", 499, new int[] {2}, 0), 1, 998);
        are("500 and 500", laid("1", 500, new int[] {2}, 0), 1, 500, 500);
        are("666 and 333", laid("1", 333, new int[] {3, 2}, 0, 0), 1, 999);
        are("333 and 666", laid("1", 333, new int[] {3, 2}, 1, 0), 1, 999);
        are("750 and 250", laid("1", 250, new int[] {4, 3, 2}, 0, 0, 0), 1, 750, 250);
        are("999 and 1", laid("y=0?2;1", 999, new int[] {2, 3}, 0, 1), 1, 499, 500, 999);
        are("one is left", laid("1", 100, new int[] {2, 1, 1}, 0, 0, 0), 1, 200);
        are("one is left, and parts again", laid("y=0?1;2", 100, new int[] {2, 1}, 0, 0), 1, 100, 100);
        are("unlike ones behind it move up", laid("y=0?2;1", 100, new int[] {4, 5}, 3, 0), 1, 200, 100, 50, 50);
        int[] plots = new int[39];
        int[] places = new int[3];
        Arrays.fill(plots, 39);
        plots[1] = 38;
        plots[2] = 37;
        places[0] = 37;
        due.is("39, 38, 37, 36", laid("1", 1, plots, places).of(0, 0), 36);
    }

    private static void joinsAsides() {
        KinkStreet x = laid("y=0?3;1", 100, new int[] {3, 3}, 1, 0);
        are("the next one's aside goes", x, 3, 0, 0);
        are("the next one's aside goes: widths", x, 1, 200, 100);
        x = laid("y=0?3;1", 100, new int[] {3, 3}, 1, 1);
        are("the first one's aside stays", x, 3, 0, 5);
        are("the first one's aside stays: widths", x, 1, 100, 200);
        x = laid("y=0?3;1", 100, new int[] {4, 4}, 3, 0);
        are("asides behind move up", x, 3, 0, 0, 5);
        x = laid("y=0?3;1", 100, new int[] {4, 4}, 1, 2);
        are("asides ahead stay", x, 3, 0, 5, 0);
        x = laid("y=0?3;1", 500, new int[] {2, 2}, 1, 0);
        are("nothing goes above 999", x, 3, 0, 5);
    }

    private static void parts() {
        due.says("2: it PARTS in two halves (the first one the half, cut; the second one's ASIDE is 0; if WIDTH is above 1 and there are fewer than 40);");
        are("100", laid("2", 100, new int[] {2}, 0), 1, 50, 50, 100);
        are("the last one", laid("2", 100, new int[] {2}, 1), 1, 100, 50, 50);
        are("5", laid("2", 5, new int[] {2}, 0), 1, 2, 3, 5);
        are("3", laid("2", 3, new int[] {2}, 1), 1, 3, 1, 2);
        are("2", laid("2", 2, new int[] {2}, 0), 1, 1, 1, 2);
        are("1", laid("2", 1, new int[] {2}, 0), 1, 1, 1);
        are("999", laid("2", 999, new int[] {2}, 0), 1, 499, 500, 999);
        are("depths", laid("2", 100, new int[] {4, 5}, 1, 2), 2, 100, 100, 100, 100, 100, 100);
        for (int place = 0; place < 5; place++) {
            int[] depths = new int[6];
            Arrays.fill(depths, 100);
            are("depths behind plot " + place, laid("2", 100, new int[] {5}, place), 2, depths);
        }
        are("as long as one is above 1", laid("2", 2, 3, 60, 1), 1, 1, 1, 1, 1, 1, 1);
        for (int years = 0; years < 4; years++) {
            KinkStreet x = laid("2", 38, 999, years, 9);
            due.is("38 in " + years + " years", x.of(0, 0), Math.min(40, 38 + years));
            due.is("all widths", x.of(0, 1), 38 * 999);
        }
        KinkStreet x = laid("c<40?2;1", 39, 100, 2, 9);
        due.is("40 PLOTS join again", x.of(0, 0), 39);
        x = laid("2", 39, 999, 1, 9);
        due.is("a full street takes no plot", x.plot(0, 1, 99000), FULL);
    }

    private static void partsAsides() {
        KinkStreet x = laid("y=0?3;2", 100, new int[] {3, 3}, 1, 1);
        are("the first one's aside stays, the second one's is 0", x, 3, 0, 5, 0, 0);
        x = laid("y=0?3;2", 100, new int[] {3, 3}, 2, 2);
        are("of the last one", x, 3, 0, 0, 5, 0);
        x = laid("y=0?3;2", 100, new int[] {3, 3}, 2, 0);
        are("asides behind move on", x, 3, 0, 0, 0, 5);
        x = laid("y=0?3;2", 100, new int[] {3, 3}, 1, 2);
        are("asides ahead stay", x, 3, 0, 5, 0, 0);
    }

    private static void asides() {
        due.says("3: its front comes ASIDE by 5 tenths more (99 at most; not PLOT 0's); else nothing.");
        are("plot 1", laid("3", 100, new int[] {3}, 1), 3, 0, 5, 0);
        are("plot 2, the last", laid("3", 100, new int[] {3}, 2), 3, 0, 0, 5);
        are("plot 0", laid("3", 100, new int[] {3}, 0), 3, 0, 0, 0);
        are("twice", laid("3", 100, new int[] {3, 3}, 1, 1), 3, 0, 10, 0);
        due.holds("the seed suits", visits(2, 60) >= 22);
        for (int years = 0; years <= 60; years++) {
            KinkStreet x = laid("3", 2, 100, years, 2);
            are(visits(2, years) + " times", x, 3, 0, Math.min(99, 5 * visits(2, years)));
            due.is("a kink", x.of(0, 2), visits(2, years) > 0 ? 1 : 0);
        }
    }

    private static int visits(int seed, int years) {
        int visits = 0;
        for (int year = 0; year < years; year++) {
            visits += Draws.plot(seed, year, 2);
        }
        return visits;
    }

    private static void storyArguments() {
        due.promise(25);
        due.says("STORIES of a STREET: SEEDS of a LAW (law), or of law -1 the LAW with the most. BAD; STATE: no LAWS.");
        KinkStreet x = Due.street(1, 1);
        due.is("no laws", x.story(0, 2001, 0, -1), STATE);
        due.is("no laws, law 0: BAD, STATE", x.story(0, 2001, 0, 0), BAD);
        due.is("no laws, law -2", x.story(0, 2001, 0, -2), BAD);
        due.is("no laws, 61 years", x.story(0, 2001, 61, -1), BAD);
        due.is("no laws, no street", x.story(1, 2001, 0, -1), BAD);
        due.is("no laws, 1 plot", x.story(0, 1001, 0, -1), BAD);
        Due.law(x, "0");
        Due.law(x, "0");
        int[][] right = {{2001, 0, 0, 20}, {2001, 60, 1, 20}, {2999, 60, 0, 20}, {39999, 60, 0, 0}, {39001, 0, 1, 0},
            {2001, 0, -1, 0}};
        for (int[] r : right) {
            due.is("story(0, " + r[0] + ", " + r[1] + ", " + r[2] + ")", x.story(0, r[0], r[1], r[2]), r[3]);
        }
        int[][] wrong = {{1001, 0, 0}, {2000, 0, 0}, {39000, 0, 0}, {40001, 0, 0}, {-1, 0, 0}, {Integer.MAX_VALUE, 0, 0},
            {Integer.MIN_VALUE, 0, 0}, {2001, -1, 0}, {2001, 61, 0}, {2001, Integer.MAX_VALUE, 0},
            {2001, Integer.MIN_VALUE, 0}, {2001, 0, 2}, {2001, 0, -2}, {2001, 0, 4}, {2001, 0, Integer.MAX_VALUE},
            {2001, 0, Integer.MIN_VALUE}};
        for (int[] w : wrong) {
            due.is("story(0, " + w[0] + ", " + w[1] + ", " + w[2] + ")", x.story(0, w[0], w[1], w[2]), BAD);
        }
        due.is("no street", x.story(1, 2001, 0, 0), BAD);
        due.is("street -1", x.story(-1, 2001, 0, 0), BAD);
        due.is("nothing of it stands", x.count(0), 1);
        due.is("the street is as it was", x.of(0, 1), 2);
    }

    private static void storySeeds() {
        due.says("STORIES: LAWS by which a TOWN laid with n, W, YEARS and SEEDS 0 .. 19 comes to have as many PLOTS as a STREET and as many KINKS: how many SEEDS;");
        int[] seeds = {-1, 0, 1, 10, 18, 19, 20};
        for (int seed : seeds) {
            int draw = Draws.draw(seed, 0);
            int want = 0;
            for (int s = 0; s <= 19; s++) {
                want += Draws.draw(s, 0) == draw ? 1 : 0;
            }
            due.holds("the seeds are told apart: " + seed, seed >= 0 && seed <= 19 ? want > 0 : want == 0);
            KinkStreet x = Due.street(7, 7, 7);
            Due.law(x, "z=" + draw + "?2;0");
            due.is("the draw of seed " + seed, x.story(0, 2100, 1, 0), want);
        }
        int kinked = 0;
        for (int s = 0; s <= 19; s++) {
            kinked += Draws.plot(s, 0, 2);
        }
        KinkStreet x = Due.aside(0, 0);
        Due.law(x, "3");
        due.is("as many plots, no kinks", x.story(0, 2100, 1, 0), 20 - kinked);
        due.is("other widths", x.story(0, 2999, 1, 0), 20 - kinked);
        x.mend(1, 2, -99);
        due.is("as many plots, one kink", x.story(0, 2100, 1, 0), kinked);
        x.plot(0, 1, 99000);
        due.is("one plot more", x.story(0, 2100, 1, 0), 0);
        due.is("three of three", x.story(0, 3100, 0, 0), 0);
        x.mend(1, 2, 0);
        due.is("three of three without a kink", x.story(0, 3100, 0, 0), 20);
        due.is("an empty street", emptyStory(), 0);
    }

    private static int emptyStory() {
        KinkStreet x = Due.street();
        Due.law(x, "1");
        return x.story(0, 2100, 60, 0);
    }

    private static void storyBest() {
        due.says("the LAW with the most (of like ones the first).");
        String[][] laws = {{"0", "2", "2"}, {"2", "0", "0"}, {"2", "2", "2", "0"}, {"2", "y=9?2;0", "2"}, {"0"},
            {"2", "2", "2", "2"}, {"z<50?2;0", "0", "z<50?2;0"}, {"0", "z<50?2;0", "0", "2"}};
        int[] best = {0, 1, 3, 1, 0, 0, 1, 0};
        for (int k = 0; k < laws.length; k++) {
            KinkStreet x = Due.street(1, 1);
            for (String law : laws[k]) {
                Due.law(x, law);
            }
            due.is("of " + String.join(" or ", laws[k]), x.story(0, 2100, 1, -1), best[k]);
        }
    }

    /** Two STREETS, the one and the other. */
    private static KinkStreet two(int[] one, int[] other) {
        KinkStreet x = Due.street(one);
        x.street();
        for (int w : other) {
            x.plot(1, w, 99000);
        }
        return x;
    }

    private static void digs(int[] one, int[] other, int want) {
        due.is(Arrays.toString(one) + " by " + Arrays.toString(other), two(one, other).dig(1), want);
        due.is(Arrays.toString(one) + " by " + Arrays.toString(other) + ", as 10", two(other, one).dig(10), want);
    }

    private static int[] widths(int... widths) {
        return widths;
    }

    private static void digEnds() {
        due.promise(26);
        due.says("DIG: for two STREETS the first AT of the one (ends of PLOTS, but for 0 and for the end of the whole STREET) that is none of the other's (the end of that whole STREET is one of them); NOT.");
        digs(widths(100, 50), widths(150), 100);
        digs(widths(100, 50), widths(100, 50), NOT);
        digs(widths(100, 50), widths(100), NOT);
        digs(widths(100, 50), widths(99), 100);
        digs(widths(100, 50), widths(101), 100);
        digs(widths(100, 50), widths(50, 50, 7), NOT);
        digs(widths(100, 50, 30), widths(100, 80), 150);
        digs(widths(100, 50, 30), widths(100, 50), NOT);
        digs(widths(100, 50, 30), widths(150, 30), 100);
        digs(widths(100, 50, 30), widths(180), 100);
        digs(widths(100), widths(50), NOT);
        digs(widths(100), widths(), NOT);
        digs(widths(), widths(100), NOT);
        digs(widths(), widths(), NOT);
        digs(widths(1, 1), widths(), 1);
        digs(widths(1, 1), widths(2), 1);
        int[] forty = new int[40];
        Arrays.fill(forty, 999);
        int[] most = new int[39];
        Arrays.fill(most, 999);
        digs(forty, most, NOT);
        most[38] = 998;
        digs(forty, most, 39 * 999);
    }

    private static void digArguments() {
        due.says("DIG of two STREETS (so: 10 times the one and the other). BAD (one and the same); NOT.");
        KinkStreet x = new KinkStreet();
        for (int s = 0; s < 6; s++) {
            x.street();
            x.plot(s, 10 + s, 99000);
            x.plot(s, 10, 99000);
        }
        for (int one = 0; one < 6; one++) {
            for (int other = 0; other < 6; other++) {
                int end = 10 + one;
                boolean isOthers = end == 20 + other;
                due.is("dig(" + one + other + ")", x.dig(10 * one + other), one == other ? BAD : isOthers ? NOT : end);
            }
        }
        int[] wrong = {6, 9, 16, 60, 61, 65, 66, 100, 101, 105, -1, -10, -12, Integer.MIN_VALUE, Integer.MAX_VALUE};
        for (int so : wrong) {
            due.is("dig(" + so + ")", x.dig(so), BAD);
        }
        KinkStreet y = Due.street(10, 10);
        due.is("no second street", y.dig(1), BAD);
        due.is("no second street", y.dig(10), BAD);
        due.is("one and the same", y.dig(0), BAD);
    }

    private static KinkStreet sixFull() {
        KinkStreet x = new KinkStreet();
        for (int s = 0; s < 6; s++) {
            x.street();
        }
        for (int p = 0; p < 40; p++) {
            x.plot(5, 100 + p, 99050);
        }
        x.plot(0, 10, 99020);
        x.plot(0, 11, 99021);
        return x;
    }

    private static void undone() {
        due.promise(27);
        due.says("UNDONE: how many may still be. STATE: none.");
        KinkStreet x = sixFull();
        due.is("none", x.undo(), STATE);
        x.mend(539, 0, 7);
        x.mend(1, 1, 8);
        x.mend(501, 2, -9);
        x.mend(539, 0, 6);
        due.says("can be UNDONE, the latest first,");
        int[][] steps = {{3, 5, 139, 7}, {2, 5, 301, 0}, {1, 0, 201, 21}, {0, 5, 139, 139}};
        for (int[] s : steps) {
            due.is("undo", x.undo(), s[0]);
            due.is("of(" + s[1] + ", " + s[2] + ")", x.of(s[1], s[2]), s[3]);
            due.is("count(5)", x.count(5), s[0]);
        }
        due.is("none", x.undo(), STATE);
        due.is("none, again", x.undo(), STATE);
        due.is("count(5)", x.count(5), 0);
        due.is("all are as they were", x.of(5, 139) + x.of(0, 201) + x.of(5, 301), 139 + 21);
    }

    private static void doneAgain() {
        due.promise(28);
        due.says("DONE AGAIN: how many may still be. STATE: none.");
        KinkStreet x = sixFull();
        due.is("none", x.redo(), STATE);
        x.mend(539, 0, 7);
        due.is("none is undone", x.redo(), STATE);
        x.mend(1, 1, 8);
        x.mend(501, 2, -9);
        x.undo();
        x.undo();
        x.undo();
        int[][] steps = {{2, 5, 139, 7}, {1, 0, 201, 8}, {0, 5, 301, -9}};
        for (int[] s : steps) {
            due.is("redo", x.redo(), s[0]);
            due.is("of(" + s[1] + ", " + s[2] + ")", x.of(s[1], s[2]), s[3]);
            due.is("count(5)", x.count(5), 3 - s[0]);
        }
        due.is("none", x.redo(), STATE);
        due.is("what is done again can be undone", x.undo(), 2);
        due.is("and done again", x.redo(), 0);
        due.says("and DONE AGAIN (as long as no other came behind);");
        x.undo();
        x.undo();
        due.is("another one", x.mend(539, 1, 3), 50);
        due.is("none is to be done again", x.redo(), STATE);
        due.is("two may be undone", x.undo(), 1);
        due.is("the other one is undone", x.of(5, 239), 50);
        due.is("it may be done again", x.redo(), 0);
        due.is("it is done again", x.of(5, 239), 3);
        x.undo();
        due.is("a refused one is none that comes behind", x.mend(539, 1, 1000), KinkStreet.VOID);
        due.is("a plot is none that comes behind", x.plot(0, 5, 99000), 2);
        due.is("it may be done again", x.redo(), 0);
    }

    private static void kept() {
        due.promise(27);
        due.says("40 at most are kept.");
        KinkStreet x = sixFull();
        for (int i = 0; i < 43; i++) {
            x.mend(i % 2 == 0 ? 500 + i % 40 : i % 4 == 1 ? 0 : 1, i % 2, 400 + i);
            due.is("change " + i, x.count(5), Math.min(40, i + 1));
        }
        for (int i = 42; i >= 3; i--) {
            due.is("undo " + i, x.undo(), i - 3);
        }
        due.is("those behind 40 are not", x.undo(), STATE);
        due.is("the first one stands", x.of(5, 100), 400);
        due.is("the second one stands", x.of(0, 200), 401);
        due.is("the third one stands", x.of(5, 102), 402);
        due.is("the fourth one is undone", x.of(0, 201), 21);
        due.is("the fifth one is undone", x.of(5, 104), 104);
        due.is("the last one is undone", x.of(5, 139), 139);
        for (int i = 3; i <= 42; i++) {
            due.is("redo " + i, x.redo(), 42 - i);
        }
        due.is("the fourth one is done again", x.of(0, 201), 439);
        due.is("40", x.count(5), 40);
        x.undo();
        due.is("39 and one more", x.mend(1, 0, 3), 11);
        due.is("40", x.count(5), 40);
        due.is("the one behind them is gone", x.redo(), STATE);
        for (int i = 39; i >= 0; i--) {
            due.is("undo", x.undo(), i);
        }
        due.is("of 40", x.undo(), STATE);
    }

    private static void sameNumber() {
        due.promise(5);
        due.says("CHANGES (WIDTHS, DEPTHS, ASIDES; telling the same number is none)");
        KinkStreet x = sixFull();
        due.is("the same width", x.mend(539, 0, 139), 139);
        due.is("the same depth", x.mend(539, 1, 50), 50);
        due.is("the same aside", x.mend(539, 2, 0), 0);
        due.is("the first one's aside", x.mend(500, 2, 0), 0);
        due.is("no change", x.count(5), 0);
        due.is("none", x.undo(), STATE);
        x.mend(539, 0, 5);
        x.mend(539, 1, 6);
        x.mend(539, 2, 7);
        due.is("a width, a depth and an aside", x.count(5), 3);
        x.undo();
        due.is("the same number as now", x.mend(539, 2, 0), 0);
        due.is("it is none that came behind", x.redo(), 0);
        due.is("aside", x.of(5, 339), 7);
    }
}
