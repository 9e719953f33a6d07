/** Promises 22 and 23, sentence by sentence: THE TAPE, the TEXTS of LAWS, their FAULTS and what they give. */
public final class LawSentencesTest {
    private static final Due due = new Due("LawSentencesTest");
    private static final int BAD = KinkStreet.BAD, FULL = KinkStreet.FULL;
    /** 4096 * 8192 * 64 is 2 to the 31st, which wraps to the least int. */
    private static final String LEAST = "(4096*8192*64)";

    public static void main(String[] args) {
        feed();
        law();
        lines();
        expressions();
        operands();
        open();
        faults();
        values();
        truths();
        order();
        countingLines();
        names();
        due.end();
    }

    private static void feed() {
        due.promise(22);
        due.says("n (1 .. 4) bytes come to THE TAPE, the lowest of v first: how many it has. BAD, FULL.");
        KinkStreet x = new KinkStreet();
        int[] wrong = {0, -1, 5, Integer.MIN_VALUE, Integer.MAX_VALUE};
        for (int n : wrong) {
            due.is("n " + n, x.feed(n, '1'), BAD);
        }
        due.is("an empty tape", x.count(3), 0);
        int digits = '1' | '*' << 8 | '2' << 16 | '+' << 24;
        due.is("4 bytes", x.feed(4, digits), 4);
        due.is("1 byte of 4", x.feed(1, digits), 5);
        due.is("1*2+1", x.law(), 0);
        due.is("3 bytes of 4", x.feed(3, digits), 3);
        due.is("1*2", x.law(), 1);
        due.is("2 bytes of 4", x.feed(2, digits), 2);
        due.is("1* ends too early", x.law(), -102);
        due.is("4 bytes, the highest one above 127", x.feed(4, '1' | '+' << 8 | '1' << 16 | 200 << 24), 4);
        due.is("it is no text", x.law(), -103);
        due.says("TEXTS by THE TAPE (at most 120 bytes):");
        for (int n = 1; n <= 4; n++) {
            KinkStreet y = new KinkStreet();
            int has = 0;
            while (has + n <= 120) {
                due.is(n + " more", y.feed(n, -1), has + n);
                has += n;
            }
            due.is(n + " more than 120", has == 120 ? y.feed(n, -1) : y.feed(4, -1), FULL);
            due.is("120 are full", y.count(3), has);
        }
        x = new KinkStreet();
        for (int i = 0; i < 39; i++) {
            x.feed(3, 0);
        }
        int[][] more = {{4, FULL}, {2, 119}, {4, FULL}, {3, FULL}, {2, FULL}, {0, BAD}, {5, BAD}, {1, 120}, {1, FULL},
            {4, FULL}, {5, BAD}};
        for (int[] m : more) {
            due.is("117 and more: feed(" + m[0] + ", 0)", x.feed(m[0], 0), m[1]);
        }
    }

    private static void law() {
        due.promise(23);
        due.says("THE TAPE becomes a LAW: its number; -100 less its FAULT; THE TAPE is empty then. FULL (it stays).");
        KinkStreet x = new KinkStreet();
        for (int i = 0; i < 4; i++) {
            due.is("a fault", Due.law(x, "w+"), -102);
            due.is("the tape is empty then", x.count(3), 0);
            due.is("no law came of it", x.count(2), i);
            due.is("law " + i, Due.law(x, "w+" + i), i);
            due.is("the tape is empty then", x.count(3), 0);
        }
        due.says("LAWS 0 .. 3 are TEXTS.");
        due.is("a fifth", Due.law(x, "0?1"), FULL);
        due.is("the tape stays", x.count(3), 3);
        due.is("again", x.law(), FULL);
        due.is("four", x.count(2), 4);
        due.is("bytes come to what stays", x.feed(1, ';'), 4);
        KinkStreet y = new KinkStreet();
        Due.law(y, "2;;");
        Due.law(y, "1?0");
        y.town(5100, 10, 3);
        due.is("nothing of a text with a fault is left in the law", y.of(0, 0), 5);
    }

    private static void fault(String text, int place) {
        KinkStreet x = new KinkStreet();
        due.is(text, Due.law(x, text), place < 0 ? 0 : -100 - place);
    }

    private static void right(String... texts) {
        for (String text : texts) {
            fault(text, -1);
        }
    }

    private static void lines() {
        due.says("LINES, one or more, parted by ; .");
        right("w", "w;w", "w;w;w", "1;2?3;4");
        fault("", 0);
        fault(";", 0);
        fault("w;", 2);
        fault(";w", 0);
        fault("w;;w", 2);
        fault("w;w;", 4);
        fault("(w;w)", 2);
        fault("w,w", 1);
        due.says("LINE: E, or E ? E (what counts if the first is not 0).");
        right("w?w", "w?w;w?w", "w|w?w|w", "w<w?w<w");
        fault("?", 0);
        fault("?w", 0);
        fault("w?", 2);
        fault("w?;w", 2);
        fault("w??w", 2);
        fault("w?w?w", 3);
        fault("w;w?w?w", 5);
        fault("(w?w)", 2);
        fault("w?w:w", 3);
    }

    private static void expressions() {
        due.says("E = A { | A }.");
        right("w|w", "w|w|w|w", "(w|w)|w", "w&w|w&w", "w?w|w");
        fault("w|", 2);
        fault("|w", 0);
        fault("w||w", 2);
        due.says("A = B { & B }.");
        right("w&w", "w&w&w&w", "w<w&w>w&w=w");
        fault("w&", 2);
        fault("&w", 0);
        fault("w&&w", 2);
        fault("w|&w", 2);
        due.says("B = S, or S < S, S = S, S > S.");
        right("w<w", "w=w", "w>w", "w+w<w-w", "(w<w)<(w<w)", "w<w|w<w", "w<w&w<w", "w<w?w<w;w<w", "(w<w)+(w<w)");
        String[] comparing = {"<", "=", ">"};
        for (String one : comparing) {
            fault("w" + one, 2);
            fault(one + "w", 0);
            fault("(w" + one + ")", 3);
            for (String other : comparing) {
                fault("w" + one + other + "w", 2);
                fault("w" + one + "w" + other + "w", 3);
                fault("(w" + one + "w" + other + "w)", 4);
            }
        }
        fault("w!=w", 1);
        due.says("S = P { + P, - P }.");
        right("w+w", "w-w", "w+w-w+w-w", "w--w", "w+-w");
        fault("+w", 0);
        fault("w+", 2);
        fault("w-", 2);
        fault("w++w", 2);
        fault("w-+w", 2);
        due.says("P = O { * O, / O, % O }.");
        right("w*w", "w/w", "w%w", "w*w/w%w*w", "w*-w", "w%!w");
        String[] signs = {"*", "/", "%"};
        for (String sign : signs) {
            fault(sign + "w", 0);
            fault("w" + sign, 2);
            fault("w" + sign + "*w", 2);
            fault("w+" + sign + "w", 2);
        }
    }

    private static void operands() {
        due.says("O = a number (1 to 4 digits), a NAME, ! O, - O, ( E ).");
        right("0", "7", "12", "123", "1234", "0000", "9999", "(12)", "!1234", "-1234");
        fault("12345", 4);
        fault("00000", 4);
        fault("w+12345", 6);
        fault("(12345)", 5);
        fault("1234567890", 4);
        fault("12w", 2);
        fault("w12", 1);
        fault("ww", 1);
        fault("w(w)", 1);
        fault("(w)w", 3);
        fault("(w)(w)", 3);
        fault("w!w", 1);
        right("!w", "-w", "!-w", "-!w", "(w)", "((w))", "!(w)", "(!w)", "-(w|w)");
        fault("!", 1);
        fault("-", 1);
        fault("(", 1);
        fault(")", 0);
        fault("()", 1);
        fault("!)", 1);
        fault("(w", 2);
        fault("(w+", 3);
        fault("(w+)", 3);
        fault("((w)", 4);
        fault("w)", 1);
        fault("(w))", 3);
        fault("!+w", 1);
        due.says("No blanks.");
        fault(" w", 0);
        fault("w ", 1);
        fault("w+ w", 2);
        fault("w; w", 2);
        fault("\tw", 0);
        due.says("w WIDTH, n that of the next PLOT (0: none), d DEPTH, y the YEAR (0 .. 199), z a draw (0 .. 99), f how many first ones W goes into WIDTH (cut), i its place, c how many PLOTS there are.");
        for (char c = 1; c < 256; c++) {
            boolean isName = "wndyzfic".indexOf(c) >= 0;
            boolean isDigit = c >= '0' && c <= '9';
            boolean goesOn = c == '(' || c == '!' || c == '-';
            fault("" + c, isName || isDigit ? -1 : goesOn ? 1 : 0);
        }
    }

    private static void open() {
        due.says("At most 6 of ( ! - ahead of an O are open at once.");
        right("((((((w))))))", "!!!!!!w", "------w", "(!-(!-w))", "-(-(-(w)))", "w-------w", "1-------1");
        fault("(((((((w)))))))", 6);
        fault("!!!!!!!w", 6);
        fault("-------w", 6);
        fault("(!-(!-(w)))", 6);
        fault("!-(!-(!w))", 6);
        fault("w--------w", 8);
        right("((((((w))))))+((((((w))))))", "!!!!!!w+!!!!!!w", "------w;------w", "((((((w))))))?((((((w))))))",
            "(!!!!!w+!!!!!w)", "(((((w)+(w)))))", "!!!(w)+!!!(!!w)");
        fault("(!!!!!w+!!!!!!w)", 13);
        fault("((((((w+(w)))))))", 8);
        fault("((((((w+!w))))))", 8);
        fault("((((((w+-w))))))", 8);
        right("((((((w-w))))))", "(((((!w)))))");
        fault("!!!!!!(w)", 6);
        fault("!!!!!!5+(((((((5", 14);
    }

    private static void faults() {
        due.says("FAULT: the place (from 0) of the first byte with which no TEXT goes on; the length, if it ends too early.");
        KinkStreet x = new KinkStreet();
        due.is("no bytes", x.law(), -100);
        for (int b = 0; b < 256; b++) {
            boolean goesOn = b >= '0' && b <= '9' || b < 128 && "|&<=>+-*/%?;".indexOf(b) >= 0;
            x = new KinkStreet();
            x.feed(2, '1' | b << 8);
            boolean digit = b >= '0' && b <= '9';
            due.is("1 and byte " + b, x.law(), digit ? 0 : goesOn ? -102 : -101);
        }
        x = new KinkStreet();
        x.feed(1, 0);
        due.is("byte 0", x.law(), -100);
        StringBuilder sum = new StringBuilder("1");
        while (sum.length() < 119) {
            sum.append("+1");
        }
        fault(sum.toString(), -1);
        fault(sum + "+", 120);
        fault(sum + "1", -1);
        fault(sum + ";", 120);
        fault(sum + "w", 119);
        StringBuilder lines = new StringBuilder("w");
        while (lines.length() < 119) {
            lines.append(";w");
        }
        fault(lines.toString(), -1);
        fault(lines + "?", 120);
        StringBuilder deep = new StringBuilder();
        while (deep.length() < 90) {
            deep.append("-(!(-(1|0&1<1+1*1)))+");
        }
        fault(deep + "1", -1);
    }

    /** Whether a PLOT of the TOWN is parted in its one YEAR: what the expression gives is as told. */
    private static void value(String expression, String is) {
        KinkStreet x = new KinkStreet();
        due.is(expression + " is a text", Due.law(x, expression + "=" + is + "?2;0"), 0);
        x.town(9200, 1, 1);
        due.is(expression + " is " + is, x.of(0, 0), 10);
    }

    private static void values() {
        due.says("Ints that wrap; / and % toward 0, by 0 they give 0;");
        value("9999", "9999");
        value("0009", "9");
        value("9999*9999", "(9998*9999+9999)");
        value(LEAST, LEAST);
        value("(" + LEAST + "<0)", "1");
        value("(" + LEAST + "-1>0)", "1");
        value("-" + LEAST, LEAST);
        value(LEAST + "/-1", LEAST);
        value(LEAST + "%-1", "0");
        value(LEAST + "*2", "0");
        value(LEAST + "+" + LEAST, "0");
        value("7/2", "3");
        value("-7/2", "-3");
        value("7/-2", "-3");
        value("-7/-2", "3");
        value("1/2", "0");
        value("-1/2", "0");
        value("7%4", "3");
        value("-7%4", "-3");
        value("7%-4", "3");
        value("-7%-4", "-3");
        value("8%4", "0");
        value("7/0", "0");
        value("-7/0", "0");
        value("7%0", "0");
        value("0/0", "0");
        value("0%0", "0");
        value("5/(w-w)+1", "1");
        value("3-5", "-2");
        value("--3", "3");
    }

    private static void truths() {
        due.says("| & < = > ! give 1, 0;");
        int[] numbers = {-2, -1, 0, 1, 2};
        for (int a : numbers) {
            value("!" + a, a == 0 ? "1" : "0");
            for (int b : numbers) {
                value("(" + a + "|" + b + ")", a != 0 || b != 0 ? "1" : "0");
                value("(" + a + "&" + b + ")", a != 0 && b != 0 ? "1" : "0");
                value("(" + a + "<" + b + ")", a < b ? "1" : "0");
                value("(" + a + "=" + b + ")", a == b ? "1" : "0");
                value("(" + a + ">" + b + ")", a > b ? "1" : "0");
            }
        }
        value("!!5", "1");
        value("(2|2|2)", "1");
        value("(2&2&2)", "1");
        value("(" + LEAST + "<0)", "1");
        value("(0>" + LEAST + ")", "1");
    }

    private static void order() {
        due.says("E = A { | A }. A = B { & B }. B = S, or S < S, S = S, S > S. S = P { + P, - P }. P = O { * O, / O, % O }.");
        value("1+2*3", "7");
        value("2*3+1", "7");
        value("(1+2)*3", "9");
        value("9-4-3", "2");
        value("9-(4-3)", "8");
        value("9-4+3", "8");
        value("24/4/2", "3");
        value("24/4*2", "12");
        value("7%4*2", "6");
        value("2*7%4", "2");
        value("(1|0&0)", "1");
        value("(0&0|1)", "1");
        value("(1|1<0)", "1");
        value("(1<2&0)", "0");
        value("(1<1+1)", "1");
        value("((3>1)=1)", "1");
        value("!0+1", "2");
        value("-1+2", "1");
        value("-2*3", "-6");
        value("2*-3", "-6");
        value("!1*5", "0");
        value("-(1+2)", "-3");
    }

    private static int plotsBehind(String law) {
        KinkStreet x = new KinkStreet();
        due.is(law + " is a text", Due.law(x, law), 0);
        x.town(9200, 1, 1);
        return x.of(0, 0);
    }

    private static void countingLines() {
        due.says("The first LINE without a first E, or whose first E is not 0, counts; none: 0.");
        String[] two = {"2", "2;0", "1?2;0", "-1?2", "0?0;2", "0?0;0?0;2;0", "0?0;5?2;0", "1?2;2?0", "0?0;1&1?2;0",
            "0?1;1?0+2", "0?3;0?3;0?3;2?2;1"};
        for (String law : two) {
            due.is(law + " gives 2", plotsBehind(law), 10);
        }
        String[] none = {"0?2", "0?2;0?2", "1?0;2", "0;2", "0?2;0;2", "1?4;2", "w<w?2;0?2"};
        for (String law : none) {
            due.is(law + " doesn't give 2", plotsBehind(law), 9);
        }
        due.says("else nothing. It is a STREET then.");
        String[] nothing = {"0", "4", "5", "-1", "-2", "-3", "9999", LEAST, "256", "258", "1-2", "!1"};
        for (String law : nothing) {
            KinkStreet x = new KinkStreet();
            due.is(law + " is a text", Due.law(x, law), 0);
            x.town(9200, 60, 1);
            due.is(law + ": plots", x.of(0, 0), 9);
            due.is(law + ": widths", x.of(0, 1), 1800);
            due.is(law + ": kinks", x.of(0, 2), 0);
        }
    }

    /** What a NAME is in the one YEAR of a TOWN of PLOTS of 200 by a SEED that draws this place. */
    private static void named(int plots, int place, String name, int is) {
        KinkStreet x = new KinkStreet();
        Due.law(x, name + "=" + is + "?2;0");
        x.town(1000 * plots + 200, 1, Draws.seed(new int[] {plots}, new int[] {place}));
        due.is(name + " of plot " + place + " of " + plots + " is " + is, x.of(0, 0), plots + 1);
        due.is("plot " + place + " is parted", x.of(0, 100 + place), 100);
    }

    private static void names() {
        due.says("n that of the next PLOT (0: none),");
        named(2, 0, "n", 200);
        named(2, 1, "n", 0);
        named(9, 7, "n", 200);
        named(9, 8, "n", 0);
        due.says("i its place, c how many PLOTS there are.");
        for (int place = 0; place < 9; place++) {
            named(9, place, "i", place);
            named(9, place, "c", 9);
        }
        named(2, 0, "c", 2);
        named(39, 38, "i", 38);
        named(39, 38, "c", 39);
        named(9, 4, "w", 200);
        named(9, 4, "d", 100);
        named(9, 4, "y", 0);
        named(9, 4, "f", 1);
        due.says("z a draw (0 .. 99),");
        for (int seed = 0; seed < 40; seed++) {
            KinkStreet x = new KinkStreet();
            Due.law(x, "z=" + Draws.draw(seed, 0) + "?2;0");
            x.town(9200, 1, seed);
            due.is("the draw of seed " + seed, x.of(0, 0), 10);
            KinkStreet y = new KinkStreet();
            Due.law(y, "z<0|z>99?2;0");
            y.town(9200, 60, seed);
            due.is("all draws of seed " + seed, y.of(0, 0), 9);
        }
        due.says("f how many first ones W goes into WIDTH (cut),");
        int[] places = {0, 0, 0, 0};
        int[] joining = {4, 3, 2, 1};
        for (int joins = 0; joins <= 3; joins++) {
            KinkStreet x = new KinkStreet();
            Due.law(x, "y<" + joins + "?1;f=" + (joins + 1) + "?2;0");
            x.town(4101, joins + 1, Draws.seed(joining, places));
            due.is("f of " + (joins + 1) + " joined", x.of(0, 0), 4 - joins + 1);
        }
        for (int plots = 2; plots < 40; plots++) {
            KinkStreet y = new KinkStreet();
            Due.law(y, "f=1?2;0");
            y.town(1000 * plots + 40, 1, 7);
            due.is("f of all of it, of " + plots, y.of(0, 0), plots + 1);
        }
        KinkStreet x = new KinkStreet();
        Due.law(x, "y=0?2;f=0?2;0");
        x.town(2101, 2, Draws.seed(new int[] {2, 3}, new int[] {0, 1}));
        due.is("f of half of it", x.of(0, 0), 4);
    }
}
