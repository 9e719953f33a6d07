/** Promises 7 to 9: rods. */
public final class RodsTest {
    private static final Due due = new Due("RodsTest");

    public static void main(String[] args) {
        misfit();
        rod();
        chance();
        due.end();
    }

    private static void misfit() {
        due.promise(7);
        KinkStreet x = Due.street(165, 330, 82, 248, 50);
        due.is("two right multiples", x.misfit(0, 1, 1651), 0);
        due.is("82 is 83 from 165", x.misfit(0, 202, 1651), 503);
        due.is("248 is 82 from 330, 83 from 165", x.misfit(0, 303, 1651), 496);
        due.is("50 is 115 from 165, as 0 is no multiple", x.misfit(0, 404, 1651), 696);
        due.is("4 times 50 is 35 from 165", x.misfit(0, 404, 1654), 212);
        due.is("2 times 82 and 2 times 248: 1 and 1", x.misfit(0, 203, 1652), 6);
        due.is("all of them: 83 + 82 + 115", x.misfit(0, 4, 1651), 339);
        int[][] wrong = {{1, 0, 1651}, {-1, 0, 1651}, {0, 5, 1651}, {0, 100, 1651}, {0, -1, 1651}, {0, 500, 1651},
            {0, 0, 391}, {0, 0, 3311}, {0, 0, 1650}, {0, 0, 1655}, {0, 0, -1}, {0, 0, 0}};
        for (int[] w : wrong) {
            due.is("misfit(" + w[0] + ", " + w[1] + ", " + w[2] + ")", x.misfit(w[0], w[1], w[2]), KinkStreet.BAD);
        }
        due.is("r 40", x.misfit(0, 0, 401), 125);
        due.is("r 330", x.misfit(0, 1, 3301), 250);
    }

    private static void rod() {
        due.promise(8);
        KinkStreet x = Due.street(300, 150, 75);
        due.is("the greatest of all that go: 300", x.rod(0, 0, 1, 0), 300);
        due.is("no misfit", x.rod(0, 0, 1, 1), 0);
        due.is("150 goes into 300, 150", x.rod(0, 1, 1, 0), 150);
        due.is("300 goes into 2 times these", x.rod(0, 1, 2, 0), 300);
        due.is("75 goes into all", x.rod(0, 2, 1, 0), 75);
        due.is("150 goes into twice all", x.rod(0, 2, 2, 0), 150);
        due.is("225 goes into 3 times 75", x.rod(0, 202, 3, 0), 225);
        due.is("300 goes into 4 times all", x.rod(0, 2, 4, 0), 300);
        due.is("330 is the last", Due.street(330, 660).rod(0, 1, 1, 0), 330);
        due.is("40 is the first", Due.street(40, 999).rod(0, 0, 1, 0), 40);
        x = Due.street(1, 1, 999);
        due.is("1 is 39 from 40, 40 from 41: both 975", x.rod(0, 1, 1, 0), 41);
        due.is("its misfit", x.rod(0, 1, 1, 1), 975);
        int[][] wrong = {{1, 0, 1, 0}, {0, 3, 1, 0}, {0, 100, 1, 0}, {0, -1, 1, 0}, {0, 0, 0, 0}, {0, 0, 5, 0},
            {0, 0, 1, 2}, {0, 0, 1, -1}};
        for (int[] w : wrong) {
            due.is("rod(" + w[0] + ", " + w[1] + ", " + w[2] + ", " + w[3] + ")", x.rod(w[0], w[1], w[2], w[3]),
                KinkStreet.BAD);
        }
    }

    private static void chance() {
        due.promise(9);
        // One WIDTH of 40 and more always has a rod that goes: every drawn one from 40 on is as good.
        KinkStreet x = Due.street(100);
        due.is("50 of 50", x.chance(0, 0, 150, 7), 50);
        due.is("1 of 1", x.chance(0, 0, 401, -7), 1);
        x = Due.street(1);
        due.is("0 + 48 % 2 is 0, worse than 1", x.chance(0, 0, 101, 0), 0);
        x = Due.street(165, 330, 165, 82);
        due.is("none of 50", x.chance(0, 2, 150, 3), 0);
        int[][] wrong = {{1, 0, 101}, {0, 4, 101}, {0, 100, 101}, {0, 0, 1}, {0, 0, 501}, {0, 0, 100}, {0, 0, 151},
            {0, 0, -1}, {0, -1, 101}};
        for (int[] w : wrong) {
            due.is("chance(" + w[0] + ", " + w[1] + ", " + w[2] + ", 1)", x.chance(w[0], w[1], w[2], 1), KinkStreet.BAD);
        }
    }
}
