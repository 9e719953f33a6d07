/** Promises 18 to 21, sentence by sentence: each one of the document that names an edge, with what lies on both sides of it. */
public final class DeedSentencesTest {
    private static final Due due = new Due("DeedSentencesTest");
    private static final int BAD = KinkStreet.BAD, NOT = KinkStreet.NOT, FULL = KinkStreet.FULL, BIG = KinkStreet.BIG;
    private static final int STATE = KinkStreet.STATE;

    public static void main(String[] args) {
        deedNames();
        deedFull();
        deedMeaning();
        stands();
        burn();
        allArguments();
        allNames();
        allSlack();
        allWays();
        allFirst();
        due.end();
    }

    private static void deedNames() {
        due.promise(18);
        due.says("NAMES 0 .. 7:");
        KinkStreet x = new KinkStreet();
        due.is("name 0 from 7", x.deed(7, 0), 1);
        due.is("name 7 from 0", x.deed(70, 0), 2);
        int[] wrong = {8, 9, 80, 90, 78, 87, 89, 108, 100, 101, 170, -1, -7, -10, -70, Integer.MIN_VALUE, Integer.MAX_VALUE};
        for (int no : wrong) {
            due.is("deed(" + no + ", 5)", x.deed(no, 5), BAD);
        }
        due.says("a NAME's PLOT begins so many feet (0 .. 999) from where another NAME's begins (further on);");
        due.is("0 feet", x.deed(12, 0), 3);
        due.is("999 feet", x.deed(12, 999), 4);
        int[] feet = {-1, 1000, Integer.MIN_VALUE, Integer.MAX_VALUE};
        for (int f : feet) {
            due.is(f + " feet", x.deed(12, f), BAD);
        }
        due.is("four", x.count(1), 4);
    }

    private static void deedFull() {
        due.says("by feet: how many. BAD (one and the same), FULL: 10.");
        KinkStreet x = new KinkStreet();
        for (int name = 0; name < 8; name++) {
            due.is("name " + name + " from itself", x.deed(11 * name, 5), BAD);
        }
        for (int i = 1; i <= 10; i++) {
            due.is("a deed", x.deed(10, 5), i);
        }
        due.is("an eleventh", x.deed(10, 5), FULL);
        due.is("an eleventh, one and the same", x.deed(11, 5), BAD);
        due.is("an eleventh, 1000 feet", x.deed(10, 1000), BAD);
        due.is("ten", x.count(1), 10);
        due.says("DEEDS 0 .. 9, as they come:");
        KinkStreet y = new KinkStreet();
        for (int i = 1; i <= 10; i++) {
            due.is("deeds of both sorts", i % 2 == 0 ? y.deed(10, 5) : y.stands(0, 0), i);
        }
        due.is("an eleventh deed", y.deed(10, 5), FULL);
        due.is("an eleventh of the other sort", y.stands(0, 0), FULL);
    }

    private static void deedMeaning() {
        due.says("A DEED: NAME from another one (no: 10 times the one whose PLOT is further on, and the other)");
        KinkStreet x = Due.street(100, 100, 100);
        x.deed(10, 10);
        due.is("name 1 is 10 feet further on", x.all(0, 0, -1), 2);
        due.is("name 0", x.all(0, 0, 0), 0);
        due.is("name 1", x.all(0, 0, 1), 1);
        x.burn();
        x.deed(1, 10);
        due.is("name 0", x.all(0, 0, 0), 1);
        due.is("name 1", x.all(0, 0, 1), 0);
        x.burn();
        x.deed(10, 20);
        due.is("20 feet: the first and the last", x.all(0, 0, -1), 1);
        x.burn();
        x.deed(10, 30);
        due.is("30 feet: the end of the street is no plot", x.all(0, 0, -1), NOT);
        x.burn();
        x.deed(10, 10);
        x.deed(1, 10);
        due.is("each further on than the other", x.all(0, 0, -1), NOT);
        due.is("by slack 20", x.all(0, 20, -1), 4);
    }

    private static void stands() {
        due.promise(19);
        due.says("or that it is the PLOT at a place (0 .. 39).");
        KinkStreet x = new KinkStreet();
        due.is("place 0", x.stands(0, 0), 1);
        due.is("place 39", x.stands(0, 39), 2);
        due.is("place 40", x.stands(0, 40), BAD);
        due.is("place -1", x.stands(0, -1), BAD);
        due.is("the greatest place", x.stands(0, Integer.MAX_VALUE), BAD);
        due.is("the least place", x.stands(0, Integer.MIN_VALUE), BAD);
        due.says("`int stands(int name, int place)`: A DEED: a NAME's PLOT is at a place: how many. BAD, FULL.");
        due.is("name 7", x.stands(7, 5), 3);
        due.is("name 8", x.stands(8, 5), BAD);
        due.is("name -1", x.stands(-1, 5), BAD);
        due.is("three", x.count(1), 3);
        for (int i = 4; i <= 10; i++) {
            due.is("the same again", x.stands(7, 5), i);
        }
        due.is("an eleventh", x.stands(7, 5), FULL);
        due.is("an eleventh, name 8", x.stands(8, 5), BAD);
        due.is("an eleventh, place 40", x.stands(7, 40), BAD);
        due.is("ten", x.count(1), 10);
        KinkStreet y = Due.street(100, 100);
        y.stands(3, 1);
        due.is("the last plot", y.all(0, 0, 3), 1);
        y.burn();
        y.stands(3, 2);
        due.is("behind the last plot", y.all(0, 0, 3), NOT);
    }

    private static void burn() {
        due.promise(20);
        due.says("`int burn()`: DEEDS are none: how many there were.");
        KinkStreet x = Due.street(100);
        due.is("none", x.burn(), 0);
        for (int i = 0; i < 10; i++) {
            x.stands(0, 0);
        }
        due.is("ten", x.burn(), 10);
        due.is("none are left", x.count(1), 0);
        due.is("none again", x.burn(), 0);
        due.is("no deeds", x.all(0, 0, -1), STATE);
        due.is("their names are in none", x.all(0, 0, 0), BAD);
        due.is("the first of new ones", x.stands(0, 0), 1);
    }

    private static void allArguments() {
        due.promise(21);
        due.says("ALL of them put together on a STREET with SLACK (0 .. 99 feet):");
        KinkStreet x = Due.street(100, 100);
        x.stands(0, 0);
        due.is("slack 0", x.all(0, 0, -1), 1);
        due.is("slack 99", x.all(0, 99, -1), 1);
        int[] slacks = {-1, 100, Integer.MIN_VALUE, Integer.MAX_VALUE};
        for (int slack : slacks) {
            due.is("slack " + slack, x.all(0, slack, -1), BAD);
        }
        due.is("no street", x.all(1, 0, -1), BAD);
        due.is("street -1", x.all(-1, 0, -1), BAD);
        due.says("ALL: how many ways (name -1), the first one's PLOT of a NAME. BAD (a NAME that is in none), BIG; NOT; STATE.");
        due.is("name 0", x.all(0, 0, 0), 0);
        int[] names = {1, 7, 8, -2, Integer.MIN_VALUE, Integer.MAX_VALUE};
        for (int name : names) {
            due.is("name " + name, x.all(0, 0, name), BAD);
        }
        x.deed(57, 0);
        due.is("name 5 is in one", x.all(0, 0, 5), NOT);
        due.is("name 7 is in one", x.all(0, 0, 7), NOT);
        due.is("name 6 is in none", x.all(0, 0, 6), BAD);
        due.says("NOT: none; STATE: no DEEDS. (At most 5 NAMES, else BIG.)");
        x.burn();
        due.is("no deeds", x.all(0, 0, -1), STATE);
        due.is("no deeds, name 0", x.all(0, 0, 0), BAD);
        due.is("no deeds, slack 100", x.all(0, 100, -1), BAD);
        due.is("no deeds on an empty street", Due.street().all(0, 0, -1), STATE);
    }

    private static void allNames() {
        KinkStreet x = Due.street(1, 1, 1, 1, 1, 1, 1);
        x.deed(10, 0);
        x.deed(32, 0);
        x.stands(4, 0);
        due.is("5 names on 7 plots", x.all(0, 99, -1), 6 * 5 * 4 * 3);
        x.deed(43, 0);
        due.is("5 names in one more", x.all(0, 99, -1), 6 * 5 * 4 * 3);
        x.stands(7, 6);
        due.is("6 names", x.all(0, 99, -1), BIG);
        due.is("6 names, one of them", x.all(0, 99, 7), BIG);
        due.is("6 names, one that is in none", x.all(0, 99, 6), BAD);
        x.deed(56, 0);
        due.is("8 names", x.all(0, 99, -1), BIG);
        KinkStreet y = Due.street();
        for (int name = 0; name < 6; name++) {
            y.stands(name, 0);
        }
        due.is("6 names, no plots", y.all(0, 0, -1), BIG);
        y = Due.street();
        y.stands(0, 0);
        due.is("1 name, no plots", y.all(0, 0, -1), NOT);
        due.is("1 name, no plots: its plot", y.all(0, 0, 0), NOT);
        due.says("NAMES that are in DEEDS get PLOTS (unlike ones for unlike NAMES):");
        y = Due.street(100, 100);
        y.stands(0, 1);
        y.stands(1, 1);
        due.is("both at one place", y.all(0, 99, -1), NOT);
        y.burn();
        y.deed(10, 0);
        due.is("0 feet from one another", y.all(0, 9, -1), NOT);
        due.is("0 feet from one another, slack 10", y.all(0, 10, -1), 2);
        y.burn();
        y.stands(0, 1);
        y.stands(0, 1);
        due.is("one name twice at one place", y.all(0, 0, -1), 1);
        y.stands(0, 0);
        due.is("one name at two places", y.all(0, 99, -1), NOT);
    }

    /** How many ways there are for name 1 at so many FEET from name 0, of two PLOTS that begin so many tenths apart. */
    private static int ways(int tenths, int feet, int slack) {
        KinkStreet x = Due.street(tenths, 1);
        x.deed(10, feet);
        return x.all(0, slack, -1);
    }

    private static void allSlack() {
        due.says("10 times the feet differ from the tenths between both beginnings by 10 SLACK at most.");
        int[][] rows = {{100, 10, 0, 1}, {99, 10, 0, NOT}, {101, 10, 0, NOT}, {110, 10, 1, 1}, {111, 10, 1, NOT}, {90, 10, 1, 1},
            {89, 10, 1, NOT}, {990, 0, 99, 2}, {991, 0, 99, NOT}, {990, 1, 99, 1}, {980, 1, 99, 2}, {981, 1, 99, 1},
            {50, 5, 10, 2}, {51, 5, 10, 1}, {40, 3, 7, 2}, {41, 3, 7, 1}, {10, 100, 99, 1}, {9, 100, 99, NOT},
            {999, 198, 99, 1}, {999, 199, 99, NOT}, {1, 0, 0, NOT}};
        for (int[] r : rows) {
            due.is(r[0] + " tenths, " + r[1] + " feet, slack " + r[2], ways(r[0], r[1], r[2]), r[3]);
        }
        int[] widths = new int[40];
        java.util.Arrays.fill(widths, 999);
        KinkStreet x = Due.street(widths);
        x.deed(76, 999);
        due.is("999 feet are ten plots of 999", x.all(0, 0, -1), 30);
        due.is("name 7", x.all(0, 0, 7), 10);
        x.deed(65, 999);
        x.deed(54, 999);
        due.is("999 feet thrice", x.all(0, 0, -1), 10);
        due.is("name 7 is the last", x.all(0, 0, 7), 30);
        due.is("slack 99 less than 999 tenths lets no more", x.all(0, 99, -1), 10);
    }

    private static KinkStreet ofOnes(int plots) {
        int[] widths = new int[plots];
        java.util.Arrays.fill(widths, 1);
        KinkStreet x = Due.street(widths);
        x.deed(10, 0);
        x.deed(32, 0);
        return x;
    }

    private static void allWays() {
        due.says("How many ways there are (1000000 at most are counted: more is told so),");
        due.is("33 plots, 4 names", ofOnes(33).all(0, 99, -1), 33 * 32 * 31 * 30);
        due.is("34 plots, 4 names would be 1113024", ofOnes(34).all(0, 99, -1), 1000000);
        KinkStreet x = ofOnes(40);
        due.is("40 plots, 4 names", x.all(0, 99, -1), 1000000);
        due.is("the first one's plot", x.all(0, 99, 3), 3);
        x.deed(54, 0);
        due.is("6 names", x.all(0, 99, -1), BIG);
        x = ofOnes(40);
        x.stands(7, 39);
        due.is("39 * 38 * 37 * 36 ways are more", x.all(0, 99, -1), 1000000);
        due.is("the fifth one's plot", x.all(0, 99, 7), 39);
        due.is("4 of them on 4 plots", ofOnes(4).all(0, 99, -1), 24);
        due.is("4 of them on 3 plots", ofOnes(3).all(0, 99, -1), NOT);
    }

    private static void allFirst() {
        due.says("the first one's PLOT of a NAME (by NAMES in order, the least PLOT first).");
        KinkStreet x = Due.street(50, 50, 100, 50, 50, 70);
        // Beginnings 0, 50, 100, 200, 250, 300.
        x.deed(27, 10);
        x.deed(24, 5);
        due.is("2 is 100 behind 7 and 50 behind 4: at 100 and 300", x.all(0, 0, -1), 2);
        int[] firstOnes = {2, 2, 4, 1, 7, 0};
        for (int i = 0; i < firstOnes.length; i += 2) {
            due.is("name " + firstOnes[i], x.all(0, 0, firstOnes[i]), firstOnes[i + 1]);
        }
        x.stands(4, 4);
        due.is("4 is the plot at 250", x.all(0, 0, -1), 1);
        due.is("2 is at 300", x.all(0, 0, 2), 5);
        due.is("7 is at 200", x.all(0, 0, 7), 3);
        x = Due.street(1, 1, 1, 1, 1, 1);
        x.deed(53, 0);
        x.stands(5, 0);
        due.is("the least name doesn't take what another needs", x.all(0, 99, 3), 1);
        due.is("5 plots are left for it", x.all(0, 99, -1), 5);
        x.deed(41, 0);
        int[] names = {1, 3, 4, 5};
        int[] plots = {1, 2, 3, 0};
        for (int i = 0; i < names.length; i++) {
            due.is("four names: name " + names[i], x.all(0, 99, names[i]), plots[i]);
        }
        due.is("four names", x.all(0, 99, -1), 5 * 4 * 3);
    }
}
