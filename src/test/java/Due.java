/** Counts answers, and prints those that are not due, with the promise that they belong to. */
final class Due {
    private final String name;
    private int promise;
    private int right;
    private int wrong;

    Due(String name) {
        this.name = name;
    }

    /** A new object with one STREET of these WIDTHS, without DEPTHS and KINKS. */
    static KinkStreet street(int... widths) {
        KinkStreet x = new KinkStreet();
        x.street();
        for (int w : widths) {
            x.plot(0, w, 99000);
        }
        return x;
    }

    void promise(int number) {
        promise = number;
    }

    void is(String call, long got, long want) {
        if (got == want) {
            right++;
        } else {
            wrong++;
            System.out.println("promise " + promise + ": " + call + " answered " + got + ", due is " + want);
        }
    }

    void holds(String what, boolean is) {
        is(what, is ? 1 : 0, 1);
    }

    void end() {
        System.out.println(name + ": " + right + " answers as due, " + wrong + " not");
        if (wrong != 0 || right == 0) {
            System.exit(1);
        }
    }
}
