/** What a SEED draws in the YEARS of a TOWN. */
final class Draws {
    private Draws() {
    }

    private static int behind(int z) {
        return z * 1103515245 + 12345;
    }

    /** The PLOT of a YEAR, if there are so many then. */
    static int plot(int seed, int year, int plots) {
        return (drawn(seed, 2 * year) >>> 8) % plots;
    }

    /** z in a YEAR. */
    static int draw(int seed, int year) {
        return (drawn(seed, 2 * year + 1) >>> 8) % 100;
    }

    private static int drawn(int seed, int behind) {
        int z = behind(seed);
        for (int i = 0; i < behind; i++) {
            z = behind(z);
        }
        return z;
    }

    /** The least SEED that draws these places, year by year, while there are so many PLOTS. */
    static int seed(int[] plots, int[] places) {
        for (int seed = 0; seed < 10000000; seed++) {
            boolean all = true;
            for (int year = 0; year < places.length && all; year++) {
                all = plot(seed, year, plots[year]) == places[year];
            }
            if (all) {
                return seed;
            }
        }
        throw new IllegalArgumentException("no such seed");
    }
}
