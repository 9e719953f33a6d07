/** Promises 18 to 21: deeds. */
public final class DeedsTest {
    private static final Due due = new Due("DeedsTest");

    public static void main(String[] args) {
        deed();
        stands();
        burn();
        all();
        many();
        due.end();
    }

    private static void deed() {
        due.promise(18);
        KinkStreet x = new KinkStreet();
        due.is("deed(76, 999)", x.deed(76, 999), 1);
        due.is("deed(7, 0)", x.deed(7, 0), 2);
        int[][] wrong = {{0, 5}, {77, 5}, {80, 5}, {8, 5}, {78, 5}, {-1, 5}, {-12, 5}, {10, -1}, {10, 1000}, {100, 1}};
        for (int[] w : wrong) {
            due.is("deed(" + w[0] + ", " + w[1] + ")", x.deed(w[0], w[1]), KinkStreet.BAD);
        }
        due.is("count(1)", x.count(1), 2);
        for (int i = 3; i <= 10; i++) {
            due.is("deed(10, 5), the same", x.deed(10, 5), i);
        }
        due.is("an eleventh", x.deed(10, 5), KinkStreet.FULL);
        due.is("an eleventh that is not so", x.deed(11, 5), KinkStreet.BAD);
        due.promise(19);
        due.is("stands, an eleventh", x.stands(0, 0), KinkStreet.FULL);
        due.is("stands, an eleventh that is not so", x.stands(0, 40), KinkStreet.BAD);
    }

    private static void stands() {
        due.promise(19);
        KinkStreet x = new KinkStreet();
        due.is("stands(7, 39)", x.stands(7, 39), 1);
        due.is("stands(0, 0)", x.stands(0, 0), 2);
        int[][] wrong = {{8, 0}, {-1, 0}, {0, -1}, {0, 40}};
        for (int[] w : wrong) {
            due.is("stands(" + w[0] + ", " + w[1] + ")", x.stands(w[0], w[1]), KinkStreet.BAD);
        }
        due.is("count(1)", x.count(1), 2);
    }

    private static void burn() {
        due.promise(20);
        KinkStreet x = new KinkStreet();
        due.is("none", x.burn(), 0);
        x.stands(0, 0);
        x.deed(12, 5);
        due.is("two", x.burn(), 2);
        due.is("none again", x.burn(), 0);
        due.is("count(1)", x.count(1), 0);
    }

    private static void all() {
        due.promise(21);
        KinkStreet x = Due.street(100, 50, 50, 300, 100);
        due.is("no deeds", x.all(0, 0, -1), KinkStreet.STATE);
        due.is("no deeds, a name", x.all(0, 0, 3), KinkStreet.BAD);
        due.is("no deeds, no street", x.all(1, 0, -1), KinkStreet.BAD);
        // Beginnings 0, 100, 150, 200, 500.
        x.deed(13, 10);
        due.is("10 feet: 100 from 0, 200 from 100", x.all(0, 0, -1), 2);
        due.is("the first: name 1 is at 100", x.all(0, 0, 1), 1);
        due.is("the first: name 3 is at 0", x.all(0, 0, 3), 0);
        due.is("name 0 is in none", x.all(0, 0, 0), KinkStreet.BAD);
        due.is("5 feet more: 50, 150 too", x.all(0, 5, -1), 5);
        due.is("name 8", x.all(0, 0, 8), KinkStreet.BAD);
        due.is("name -2", x.all(0, 0, -2), KinkStreet.BAD);
        due.is("slack -1", x.all(0, -1, -1), KinkStreet.BAD);
        due.is("slack 100", x.all(0, 100, -1), KinkStreet.BAD);
        x.stands(3, 1);
        due.is("name 3 is the plot at 1", x.all(0, 0, -1), 1);
        due.is("name 1 is at 200", x.all(0, 0, 1), 3);
        x.stands(3, 2);
        due.is("not two places", x.all(0, 0, -1), KinkStreet.NOT);
        due.is("not two places, name 3", x.all(0, 0, 3), KinkStreet.NOT);
        due.is("not two places, name 2", x.all(0, 0, 2), KinkStreet.BAD);
        x.burn();
        x.deed(10, 0);
        due.is("unlike names: 5 feet back too", x.all(0, 5, -1), 4);
        due.is("the lesser name first, at the least plot", x.all(0, 5, 0), 1);
        due.is("then name 1", x.all(0, 5, 1), 2);
        x.burn();
        x.stands(5, 5);
        due.is("no plot there", x.all(0, 0, -1), KinkStreet.NOT);
        x.plot(0, 10, 99000);
        due.is("a plot there", x.all(0, 0, 5), 5);
        x.deed(10, 0);
        x.deed(32, 0);
        due.is("5 names, one at 5: 5 * 4 * 3 * 2 ways", x.all(0, 99, -1), 120);
        x.deed(46, 0);
        due.is("7 names", x.all(0, 99, -1), KinkStreet.BIG);
        due.is("7 names, one that is in none", x.all(0, 99, 7), KinkStreet.BAD);
        x = Due.street();
        x.stands(0, 0);
        due.is("an empty street", x.all(0, 99, -1), KinkStreet.NOT);
    }

    private static void many() {
        due.promise(21);
        KinkStreet x = Due.street();
        for (int p = 0; p < 40; p++) {
            x.plot(0, 1, 99000);
        }
        x.deed(10, 0);
        x.deed(32, 0);
        due.is("40 * 39 * 38 * 37 ways are more than are counted", x.all(0, 99, -1), 1000000);
        x.burn();
        x.deed(10, 0);
        x.deed(21, 0);
        due.is("40 * 39 * 38 ways", x.all(0, 99, -1), 59280);
        x.deed(34, 0);
        x.stands(3, 39);
        due.is("40 first ones, 39 of them at 39", x.all(0, 99, -1), 1000000);
        due.is("name 4", x.all(0, 99, 4), 3);
        x.stands(4, 0);
        due.is("38 * 37 * 36 ways", x.all(0, 99, -1), 50616);
        due.is("name 0", x.all(0, 99, 0), 1);
    }
}
