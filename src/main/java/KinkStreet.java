/**
 * Rows of plots on a late plan, and what can be read from them about how a town was laid.
 * The words in capitals are those of the document that this class is built by.
 *
 * <p>Every array is made with the object and used again by each call, so that a call makes nothing.
 */
public final class KinkStreet {
    public static final int BAD = -1, NOT = -2, FULL = -3, BIG = -4, STATE = -5, VOID = -2000000000;

    private static final int NOTHING_THERE = -11, OTHER_KIND = -12, NO_PLACE = -13, SIZE_BELOW_0 = -14;
    private static final int MOST_STREETS = 6, MOST_PLOTS = 40, MOST_LAWS = 4, MOST_SHELVES = 6;
    private static final int WIDTH = 0, DEPTH = 1, ASIDE = 2;
    private static final int TOP_WIDTH = 999, TOP_DEPTH = 999, TOP_ASIDE = 99;
    private static final int TOP_YEARS = 60, STORY_SEEDS = 20;
    private static final int NONE = 1000000000;

    private final Street[] streets = new Street[MOST_STREETS];
    private int streetCount;
    private final Street storyTown = new Street();
    private final Changes changes = new Changes();
    private final Rods rods = new Rods();
    private final FirstPlots firstPlots = new FirstPlots();
    private final Pieces partedPieces = new Pieces();
    private final Bends bends = new Bends();
    private final Deeds deeds = new Deeds();
    private final Tape tape = new Tape();
    private final Law[] laws = new Law[MOST_LAWS];
    private int lawCount;
    private final Lines lines = new Lines();
    private final Shelf[] shelves = new Shelf[MOST_SHELVES];

    public KinkStreet() {
        for (int i = 0; i < streets.length; i++) {
            streets[i] = new Street();
        }
        for (int i = 0; i < laws.length; i++) {
            laws[i] = new Law();
        }
        for (int i = 0; i < shelves.length; i++) {
            shelves[i] = new Shelf();
        }
    }

    // ---- streets, plots

    public int street() {
        return streetCount < streets.length ? streetCount++ : FULL;
    }

    public int plot(int street, int width, int da) {
        Street s = knownStreet(street);
        if (s == null || da < 0) {
            return BAD;
        }
        int depth = da % 1000;
        int aside = da / 1000 - TOP_ASIDE;
        if (!s.wouldTake(width, depth, aside)) {
            return BAD;
        }
        if (s.isFull()) {
            return FULL;
        }
        s.append(width, depth, aside);
        return s.size() - 1;
    }

    public int plots(int street, int shelf, int i, int n) {
        Street s = knownStreet(street);
        Shelf from = knownShelf(shelf);
        if (s == null || from == null || n < 1 || n > 20) {
            return BAD;
        }
        if (from.isEmpty()) {
            return 0;
        }
        if (!from.holdsShorts()) {
            return OTHER_KIND;
        }
        int came = 0;
        while (came < n && plotCame(s, from, i + 3 * came)) {
            came++;
        }
        return came;
    }

    public int mend(int sp, int what, int v) {
        Street s = sp < 0 ? null : knownStreet(sp / 100);
        int plot = sp % 100;
        if (s == null || !s.has(plot) || what < WIDTH || what > ASIDE || !s.allows(what, plot, v)) {
            return VOID;
        }
        int was = s.fact(what, plot);
        if (was != v) {
            s.tell(what, plot, v);
            changes.remember(sp, what, was, v);
        }
        return was;
    }

    public int of(int street, int what) {
        Street s = knownStreet(street);
        if (s == null || what < 0) {
            return VOID;
        }
        if (what <= 2) {
            return what == 0 ? s.size() : what == 1 ? s.begin(s.size()) : s.kinks();
        }
        int plot = what % 100;
        if (what < 100 || what >= 500 || !s.has(plot)) {
            return VOID;
        }
        return what >= 400 ? s.begin(plot) : s.fact(what / 100 - 1, plot);
    }

    // ---- rods (ab: 100 times the first PLOT and the last one; rk: 10 r and k)

    public int misfit(int street, int ab, int rk) {
        Street s = knownStreet(street);
        if (s == null || !s.hasRow(ab) || rk < 0 || !Rods.isRod(rk / 10) || !Rods.isParts(rk % 10)) {
            return BAD;
        }
        rods.lookAt(s, ab);
        return rods.misfitBy(rk / 10, rk % 10);
    }

    public int rod(int street, int ab, int k, int what) {
        Street s = knownStreet(street);
        if (s == null || !s.hasRow(ab) || !Rods.isParts(k) || what < 0 || what > 1) {
            return BAD;
        }
        rods.lookAt(s, ab);
        int best = rods.bestRod(k);
        return what == 0 ? best : rods.misfitBy(best, k);
    }

    public int chance(int street, int ab, int kn, int seed) {
        Street s = knownStreet(street);
        if (s == null || !s.hasRow(ab) || kn < 0 || !Rods.isParts(kn / 100)) {
            return BAD;
        }
        int times = kn % 100;
        if (times < 1 || times > 50) {
            return BAD;
        }
        return rods.byChance(s, ab, kn / 100, times, seed);
    }

    // ---- first plots, pieces (ws: 100 W and SLACK)

    public int first(int street, int ws, int what) {
        Street s = knownStreet(street);
        if (s == null || !FirstPlots.isWidthAndSlack(ws) || what < 0 || what > 2) {
            return BAD;
        }
        if (!firstPlots.canPart(s, ws / 100, ws % 100)) {
            return NOT;
        }
        return what == 0 ? firstPlots.cost() : what == 1 ? firstPlots.groups() : firstPlots.firstOnesAhead(s.size());
    }

    public int led(int sp, int ws) {
        Street s = sp < 0 ? null : knownStreet(sp / 100);
        if (s == null || !s.has(sp % 100) || !FirstPlots.isWidthAndSlack(ws)) {
            return BAD;
        }
        return firstPlots.canPart(s, ws / 100, ws % 100) ? firstPlots.firstOnesAhead(sp % 100) : NOT;
    }

    public int pieces(int street, int price, int i) {
        Street s = knownStreet(street);
        if (s == null || price < 0 || price > 9999 || i < -2 || i >= Pieces.MOST) {
            return BAD;
        }
        if (s.size() < 2) {
            return NOT;
        }
        partedPieces.divide(s, price);
        if (i < 0) {
            return i == -2 ? partedPieces.sum() : partedPieces.howMany();
        }
        return i < partedPieces.howMany() ? partedPieces.begin(i) : BAD;
    }

    public int bend(int to) {
        int one = to / 10;
        int other = to % 10;
        if (to < 0 || one >= streetCount || other >= streetCount || one == other || bends.isTold(one, other)) {
            return BAD;
        }
        return bends.tell(one, other);
    }

    public int order(int i) {
        if (i < -1) {
            return BAD;
        }
        int left = (1 << streetCount) - 1;
        for (int step = 0; step < streetCount; step++) {
            int next = bends.leastFree(left);
            if (next < 0) {
                return i == -1 ? Integer.numberOfTrailingZeros(left) : NOT;
            }
            if (step == i) {
                return next;
            }
            left &= ~(1 << next);
        }
        return NOT;
    }

    public int wall(int street, int d, int what) {
        Street s = knownStreet(street);
        if (s == null || what < 0 || what > 2) {
            return BAD;
        }
        int ab = s.longestAbove(d);
        if (ab < 0) {
            return NOT;
        }
        return what == 0 ? ab / 100 : what == 1 ? s.length(ab) : s.leastDeep(ab);
    }

    public int furrow(int street) {
        Street s = knownStreet(street);
        return s == null ? BAD : s.turns();
    }

    public int market(int street, int ab) {
        Street s = knownStreet(street);
        if (s == null || !s.hasRow(ab)) {
            return BAD;
        }
        int whole = s.begin(s.size());
        return whole > 0 ? s.length(ab) * 1000 / whole : BAD;
    }

    // ---- deeds

    public int deed(int no, int feet) {
        int one = no / 10;
        int other = no % 10;
        if (no < 0 || !Deeds.isName(one) || !Deeds.isName(other) || one == other || feet < 0 || feet > 999) {
            return BAD;
        }
        return deeds.isFull() ? FULL : deeds.write(one, other, feet);
    }

    public int stands(int name, int place) {
        if (!Deeds.isName(name) || place < 0 || place >= MOST_PLOTS) {
            return BAD;
        }
        return deeds.isFull() ? FULL : deeds.write(name, Deeds.PLACE, place);
    }

    public int burn() {
        return deeds.clear();
    }

    public int all(int street, int slack, int name) {
        Street s = knownStreet(street);
        if (s == null || slack < 0 || slack > 99 || name < -1 || name >= 0 && !deeds.mention(name)) {
            return BAD;
        }
        int names = deeds.gatherNames();
        if (names > Deeds.MOST_TOGETHER) {
            return BIG;
        }
        if (names == 0) {
            return STATE;
        }
        int ways = deeds.putTogether(s, slack);
        if (ways == 0) {
            return NOT;
        }
        return name < 0 ? ways : deeds.foundPlot(name);
    }

    // ---- laws, towns

    public int feed(int n, int v) {
        if (n < 1 || n > 4) {
            return BAD;
        }
        return tape.hasRoomFor(n) ? tape.take(n, v) : FULL;
    }

    public int law() {
        if (lawCount >= laws.length) {
            return FULL;
        }
        int fault = tape.readInto(laws[lawCount]);
        tape.clear();
        return fault == Tape.NO_FAULT ? lawCount++ : -100 - fault;
    }

    public int town(int nw, int ly, int seed) {
        Law by = ly < 0 ? null : knownLaw(ly / 100);
        if (by == null || !isTown(nw) || ly % 100 > TOP_YEARS) {
            return BAD;
        }
        if (streetCount >= streets.length) {
            return FULL;
        }
        by.lay(streets[streetCount], nw, ly % 100, seed);
        return streetCount++;
    }

    public int story(int street, int nw, int years, int law) {
        Street s = knownStreet(street);
        if (s == null || !isTown(nw) || years < 0 || years > TOP_YEARS || law < -1 || law >= 0 && knownLaw(law) == null) {
            return BAD;
        }
        if (lawCount == 0) {
            return STATE;
        }
        return law < 0 ? likeliestLaw(s, nw, years) : storySeeds(s, nw, years, knownLaw(law));
    }

    public int dig(int so) {
        Street one = so < 0 ? null : knownStreet(so / 10);
        Street other = so < 0 ? null : knownStreet(so % 10);
        if (one == null || other == null || so / 10 == so % 10) {
            return BAD;
        }
        for (int plot = 1; plot < one.size(); plot++) {
            if (!other.endsAt(one.begin(plot))) {
                return one.begin(plot);
            }
        }
        return NOT;
    }

    public int undo() {
        if (changes.undoable() == 0) {
            return STATE;
        }
        Street s = knownStreet(changes.lastPlot() / 100);
        if (s != null) {
            s.tell(changes.lastWhat(), changes.lastPlot() % 100, changes.lastBefore());
        }
        return changes.stepBack();
    }

    public int redo() {
        if (changes.redoable() == 0) {
            return STATE;
        }
        int left = changes.stepOn();
        Street s = knownStreet(changes.lastPlot() / 100);
        if (s != null) {
            s.tell(changes.lastWhat(), changes.lastPlot() % 100, changes.lastAfter());
        }
        return left;
    }

    // ---- acts, shelves

    public int body(int kind) {
        if (!Lines.isKind(kind)) {
            return BAD;
        }
        return lines.isFull() ? FULL : lines.append(kind);
    }

    public int act(int body, int act, int x) {
        return lines.perform(body, act, x);
    }

    public int trace(int i) {
        return lines.traced(i);
    }

    public int keep(int shelf, int body) {
        Shelf s = knownShelf(shelf);
        if (s == null || body != -1 && !lines.has(body)) {
            return BAD;
        }
        if (body == -1) {
            s.holdNothing();
        } else {
            s.holdLine(body);
        }
        return 1;
    }

    public int row(int shelf, int sort, int n) {
        Shelf s = knownShelf(shelf);
        if (s == null || !Shelf.isSort(sort) || n > Shelf.MOST_ELEMENTS) {
            return BAD;
        }
        if (n < 0) {
            return SIZE_BELOW_0;
        }
        s.holdRow(sort, n);
        return 1;
    }

    public int put(int shelf, int i, long v) {
        Shelf s = knownShelf(shelf);
        if (s == null) {
            return BAD;
        }
        int refusal = s.refusal(i);
        if (refusal != 0) {
            return refusal;
        }
        s.write(i, v);
        return 1;
    }

    public long element(int shelf, int i) {
        Shelf s = knownShelf(shelf);
        return s == null || s.refusal(i) != 0 ? Long.MIN_VALUE : s.read(i);
    }

    public int shift(int shelf, int i, int other, int j, int n) {
        Shelf from = knownShelf(shelf);
        Shelf to = knownShelf(other);
        if (from == null || to == null) {
            return BAD;
        }
        if (from.isEmpty() || to.isEmpty()) {
            return NOTHING_THERE;
        }
        if (!from.holdsRowLike(to)) {
            return OTHER_KIND;
        }
        if (!from.spans(i, n) || !to.spans(j, n)) {
            return NO_PLACE;
        }
        from.copyTo(to, i, j, n);
        return n;
    }

    public int taken(int shelf, int k) {
        Shelf s = knownShelf(shelf);
        if (s == null || !Lines.isKind(k)) {
            return BAD;
        }
        if (s.isEmpty()) {
            return NOTHING_THERE;
        }
        int kind = s.holdsLine() ? lines.kindOf(s.line()) : -1;
        return Lines.isUnder(kind, k) ? kind : OTHER_KIND;
    }

    public int count(int what) {
        switch (what) {
            case 0: return streetCount;
            case 1: return deeds.size();
            case 2: return lawCount;
            case 3: return tape.size();
            case 4: return bends.size();
            case 5: return changes.undoable();
            case 6: return lines.size();
            case 7: return lines.bodiesThatRan();
            default: return BAD;
        }
    }

    // ---- what several calls share

    private Street knownStreet(int street) {
        return street >= 0 && street < streetCount && street < streets.length ? streets[street] : null;
    }

    private Law knownLaw(int law) {
        return law >= 0 && law < lawCount && law < laws.length ? laws[law] : null;
    }

    private Shelf knownShelf(int shelf) {
        return shelf >= 0 && shelf < shelves.length ? shelves[shelf] : null;
    }

    private static boolean isTown(int nw) {
        return nw >= 2000 && nw < MOST_PLOTS * 1000 && nw % 1000 > 0;
    }

    private static int drawAfter(int z) {
        return z * 1103515245 + 12345;
    }

    private static boolean plotCame(Street s, Shelf from, int i) {
        if (s.isFull() || !from.spans(i, 3)) {
            return false;
        }
        int width = (int) from.read(i);
        int depth = (int) from.read(i + 1);
        int aside = (int) from.read(i + 2);
        if (!s.wouldTake(width, depth, aside)) {
            return false;
        }
        s.append(width, depth, aside);
        return true;
    }

    private int storySeeds(Street s, int nw, int years, Law by) {
        if (by == null) {
            return 0;
        }
        int seeds = 0;
        for (int seed = 0; seed < STORY_SEEDS; seed++) {
            by.lay(storyTown, nw, years, seed);
            if (storyTown.size() == s.size() && storyTown.kinks() == s.kinks()) {
                seeds++;
            }
        }
        return seeds;
    }

    private int likeliestLaw(Street s, int nw, int years) {
        int best = 0;
        int most = -1;
        for (int law = 0; law < lawCount; law++) {
            int seeds = storySeeds(s, nw, years, knownLaw(law));
            if (seeds > most) {
                most = seeds;
                best = law;
            }
        }
        return best;
    }

    /** A row of PLOTS, and what can be seen in it without a choice among ways. */
    private static final class Street {
        private final int[] widths = new int[MOST_PLOTS];
        private final int[] depths = new int[MOST_PLOTS];
        private final int[] asides = new int[MOST_PLOTS];
        private int size;

        int size() {
            return size;
        }

        boolean isFull() {
            return size >= MOST_PLOTS;
        }

        void clear() {
            size = 0;
        }

        boolean has(int plot) {
            return plot >= 0 && plot < size;
        }

        boolean hasRow(int ab) {
            return ab >= 0 && ab / 100 <= ab % 100 && has(ab % 100);
        }

        boolean allows(int what, int plot, int v) {
            if (what == WIDTH) {
                return v >= 1 && v <= TOP_WIDTH;
            }
            if (what == DEPTH) {
                return v >= 0 && v <= TOP_DEPTH;
            }
            return plot == 0 ? v == 0 : v >= -TOP_ASIDE && v <= TOP_ASIDE;
        }

        boolean wouldTake(int width, int depth, int aside) {
            return allows(WIDTH, size, width) && allows(DEPTH, size, depth) && allows(ASIDE, size, aside);
        }

        void append(int width, int depth, int aside) {
            insert(size, width, depth, aside);
        }

        int fact(int what, int plot) {
            return has(plot) ? facts(what)[plot] : 0;
        }

        void tell(int what, int plot, int v) {
            if (has(plot)) {
                facts(what)[plot] = v;
            }
        }

        int width(int plot) {
            return has(plot) ? widths[plot] : 0;
        }

        int aside(int plot) {
            return has(plot) ? asides[plot] : 0;
        }

        private int[] facts(int what) {
            return what == WIDTH ? widths : what == DEPTH ? depths : asides;
        }

        /** AT; of the place behind the last PLOT it is the whole length. */
        int begin(int plot) {
            int sum = 0;
            for (int p = 0; p < plot && p < size; p++) {
                sum += widths[p];
            }
            return sum;
        }

        int length(int ab) {
            return begin(ab % 100 + 1) - begin(ab / 100);
        }

        boolean endsAt(int at) {
            int end = 0;
            for (int p = 0; p < size; p++) {
                end += widths[p];
                if (end == at) {
                    return true;
                }
            }
            return false;
        }

        int kinks() {
            int kinks = 0;
            for (int p = 0; p < size; p++) {
                if (asides[p] != 0) {
                    kinks++;
                }
            }
            return kinks;
        }

        int turns() {
            int turns = 0;
            int way = 0;
            for (int p = 0; p < size; p++) {
                int sign = Integer.signum(asides[p]);
                if (sign != 0) {
                    turns += sign == -way ? 1 : 0;
                    way = sign;
                }
            }
            return turns;
        }

        /** The WALL as 100 times its first PLOT and its last one, or NOT. */
        int longestAbove(int d) {
            int best = NOT;
            int most = 0;
            int begin = 0;
            for (int p = 0; p <= size; p++) {
                if (p < size && depths[p] > d) {
                    continue;
                }
                int ab = 100 * begin + p - 1;
                if (p - begin >= 2 && length(ab) > most) {
                    most = length(ab);
                    best = ab;
                }
                begin = p + 1;
            }
            return best;
        }

        int leastDeep(int ab) {
            int gate = ab / 100;
            for (int p = gate; p <= ab % 100; p++) {
                if (fact(DEPTH, p) < fact(DEPTH, gate)) {
                    gate = p;
                }
            }
            return gate;
        }

        void join(int plot) {
            int together = width(plot) + width(plot + 1);
            if (has(plot) && has(plot + 1) && together <= TOP_WIDTH) {
                widths[plot] = together;
                remove(plot + 1);
            }
        }

        void part(int plot) {
            int whole = width(plot);
            if (whole > 1 && !isFull()) {
                tell(WIDTH, plot, whole / 2);
                insert(plot + 1, whole - whole / 2, fact(DEPTH, plot), 0);
            }
        }

        void stepAside(int plot) {
            if (plot > 0) {
                tell(ASIDE, plot, Math.min(TOP_ASIDE, aside(plot) + 5));
            }
        }

        private void insert(int plot, int width, int depth, int aside) {
            if (isFull() || plot < 0 || plot > size) {
                return;
            }
            for (int p = size; p > plot; p--) {
                widths[p] = widths[p - 1];
                depths[p] = depths[p - 1];
                asides[p] = asides[p - 1];
            }
            widths[plot] = width;
            depths[plot] = depth;
            asides[plot] = aside;
            size++;
        }

        private void remove(int plot) {
            if (!has(plot)) {
                return;
            }
            for (int p = plot + 1; p < size; p++) {
                widths[p - 1] = widths[p];
                depths[p - 1] = depths[p];
                asides[p - 1] = asides[p];
            }
            size--;
        }
    }

    /** The latest CHANGES; those behind the place where we are can be DONE AGAIN. */
    private static final class Changes {
        private static final int MOST = 40;
        private final int[] plots = new int[MOST];
        private final int[] whats = new int[MOST];
        private final int[] befores = new int[MOST];
        private final int[] afters = new int[MOST];
        private int done;
        private int kept;

        int undoable() {
            return done;
        }

        int redoable() {
            return kept - done;
        }

        void remember(int sp, int what, int before, int after) {
            if (done >= MOST) {
                forgetOldest();
            }
            plots[done] = sp;
            whats[done] = what;
            befores[done] = before;
            afters[done] = after;
            done++;
            kept = done;
        }

        private void forgetOldest() {
            for (int i = 1; i < MOST; i++) {
                plots[i - 1] = plots[i];
                whats[i - 1] = whats[i];
                befores[i - 1] = befores[i];
                afters[i - 1] = afters[i];
            }
            done = MOST - 1;
        }

        int stepBack() {
            if (done > 0) {
                done--;
            }
            return done;
        }

        int stepOn() {
            if (done < kept) {
                done++;
            }
            return kept - done;
        }

        int lastPlot() {
            return last(plots);
        }

        int lastWhat() {
            return last(whats);
        }

        int lastBefore() {
            return last(befores);
        }

        int lastAfter() {
            return last(afters);
        }

        private int last(int[] of) {
            return done > 0 && done <= of.length ? of[done - 1] : 0;
        }
    }

    /** How well WIDTHS go by a rod. */
    private static final class Rods {
        private static final int LEAST_ROD = 40, TOP_ROD = 330;
        private final int[] widths = new int[MOST_PLOTS];
        private int many;

        static boolean isRod(int r) {
            return r >= LEAST_ROD && r <= TOP_ROD;
        }

        static boolean isParts(int k) {
            return k >= 1 && k <= 4;
        }

        void lookAt(Street s, int ab) {
            many = 0;
            for (int p = ab / 100; p <= ab % 100 && many < MOST_PLOTS; p++) {
                widths[many++] = s.width(p);
            }
        }

        int misfitBy(int r, int k) {
            if (r <= 0 || many <= 0) {
                return BAD;
            }
            int errs = 0;
            for (int i = 0; i < many; i++) {
                errs += err(k * widths[i], r);
            }
            return errs * 1000 / (r * many);
        }

        /** A WIDTH below one rod is measured against that rod: 0 is no multiple here. */
        private static int err(int length, int r) {
            if (r <= 0) {
                return 0;
            }
            int above = length % r;
            return length < r ? r - length : Math.min(above, r - above);
        }

        int bestRod(int k) {
            int best = LEAST_ROD;
            int least = NONE;
            for (int r = LEAST_ROD; r <= TOP_ROD; r++) {
                int misfit = misfitBy(r, k);
                if (misfit <= least) {
                    least = misfit;
                    best = r;
                }
            }
            return best;
        }

        int byChance(Street s, int ab, int k, int times, int seed) {
            lookAt(s, ab);
            int found = misfitBy(bestRod(k), k);
            int z = seed;
            int asLittle = 0;
            for (int t = 0; t < times; t++) {
                for (int i = 0; i < many; i++) {
                    z = drawAfter(z);
                    widths[i] = drawnWidth(s.width(ab / 100 + i), z);
                }
                if (misfitBy(bestRod(k), k) <= found) {
                    asLittle++;
                }
            }
            return asLittle;
        }

        private static int drawnWidth(int width, int z) {
            return width < 0 ? 0 : width / 2 + (z >>> 8) % (width + 1);
        }
    }

    /** FIRST PLOTS: the best parting of what is behind each PLOT, worked out from the end. */
    private static final class FirstPlots {
        private static final int MOST_IN_GROUP = 6, MOST_FIRST_ONES = 6;
        private final int[] costs = new int[MOST_PLOTS + 1];
        private final int[] groupCounts = new int[MOST_PLOTS + 1];
        private final int[] groupPlots = new int[MOST_PLOTS + 1];
        private final int[] groupFirstOnes = new int[MOST_PLOTS + 1];

        static boolean isWidthAndSlack(int ws) {
            return ws >= 1000 && ws <= 99999;
        }

        boolean canPart(Street s, int width, int slack) {
            int n = s.size();
            if (n < 0 || n >= costs.length) {
                return false;
            }
            costs[n] = 0;
            groupCounts[n] = 0;
            groupPlots[n] = 0;
            groupFirstOnes[n] = 0;
            for (int begin = n - 1; begin >= 0; begin--) {
                chooseGroup(s, begin, width, slack);
            }
            return costs[0] < NONE;
        }

        /** Tries few PLOTS and few first ones ahead of many, so that of like ones the first stays. */
        private void chooseGroup(Street s, int begin, int width, int slack) {
            costs[begin] = NONE;
            groupCounts[begin] = 0;
            int sum = 0;
            for (int p = 1; p <= MOST_IN_GROUP && begin + p <= s.size(); p++) {
                sum += s.width(begin + p - 1);
                for (int f = 1; f <= MOST_FIRST_ONES; f++) {
                    if (Math.abs(sum - f * width) <= f * slack) {
                        offer(begin, p, f);
                    }
                }
            }
        }

        private void offer(int begin, int p, int f) {
            int behind = begin + p;
            if (behind >= costs.length || costs[behind] >= NONE) {
                return;
            }
            int cost = costs[behind] + p - 1 + f - 1;
            int groups = groupCounts[behind] + 1;
            if (cost < costs[begin] || cost == costs[begin] && groups < groupCounts[begin]) {
                costs[begin] = cost;
                groupCounts[begin] = groups;
                groupPlots[begin] = p;
                groupFirstOnes[begin] = f;
            }
        }

        int cost() {
            return costs[0];
        }

        int groups() {
            return groupCounts[0];
        }

        /** First ones ahead of the GROUP that the PLOT is in; of the end: all of them. */
        int firstOnesAhead(int plot) {
            int ahead = 0;
            int begin = 0;
            for (int g = 0; g < MOST_PLOTS && begin < MOST_PLOTS; g++) {
                int behind = begin + groupPlots[begin];
                if (groupPlots[begin] < 1 || behind > plot) {
                    return ahead;
                }
                ahead += groupFirstOnes[begin];
                begin = behind;
            }
            return ahead;
        }
    }

    /** PIECES: the least sums of what is behind each PLOT, for each number of PIECES. */
    private static final class Pieces {
        static final int MOST = 5;
        private final int[][] spreads = new int[MOST_PLOTS][MOST_PLOTS + 1];
        private final int[][] sums = new int[MOST + 1][MOST_PLOTS + 1];
        private final int[] sorted = new int[MOST_PLOTS];
        private final int[] begins = new int[MOST];
        private int pieceCount;

        void divide(Street s, int price) {
            for (int begin = 0; begin < s.size() && begin < MOST_PLOTS; begin++) {
                workOutSpreads(s, begin, s.aside(begin) == 0 ? price : 0);
            }
            pieceCount = 1;
            for (int k = 1; k <= MOST; k++) {
                workOutSums(s.size(), k);
                if (sums[k][0] < sums[pieceCount][0]) {
                    pieceCount = k;
                }
            }
            findBreaks(s.size());
        }

        int sum() {
            return sums[pieceCount][0];
        }

        int howMany() {
            return pieceCount;
        }

        int begin(int i) {
            return i >= 0 && i < begins.length ? begins[i] : BAD;
        }

        /** What each PIECE that begins here costs, by its end: its WIDTHS come one by one, kept by size. */
        private void workOutSpreads(Street s, int begin, int price) {
            for (int end = begin + 1; end <= s.size(); end++) {
                int many = end - begin;
                sortIn(s.width(end - 1), many - 1);
                int middle = sorted[(many - 1) / 2];
                int sum = price;
                for (int i = 0; i < many; i++) {
                    sum += Math.abs(sorted[i] - middle);
                }
                spreads[begin][end] = sum;
            }
        }

        private void sortIn(int width, int many) {
            int i = Math.min(many, sorted.length - 1);
            while (i > 0 && sorted[i - 1] > width) {
                sorted[i] = sorted[i - 1];
                i--;
            }
            sorted[i] = width;
        }

        private void workOutSums(int n, int k) {
            for (int begin = 0; begin <= n; begin++) {
                int least = NONE;
                if (k == 1) {
                    least = n - begin >= 2 ? spreads[begin][n] : NONE;
                } else {
                    for (int end = begin + 2; end <= n - 2; end++) {
                        least = Math.min(least, spreads[begin][end] + sums[k - 1][end]);
                    }
                }
                sums[k][begin] = least;
            }
        }

        private void findBreaks(int n) {
            begins[0] = 0;
            for (int i = 1; i < pieceCount; i++) {
                int begin = begins[i - 1];
                int rest = pieceCount - i;
                int end = begin + 2;
                while (end < n - 2 && spreads[begin][end] + sums[rest][end] != sums[rest + 1][begin]) {
                    end++;
                }
                begins[i] = end;
            }
        }
    }

    /** Which STREET bends to which: of each one a bit for every other. */
    private static final class Bends {
        private final int[] bendsTo = new int[MOST_STREETS];
        private int size;

        int size() {
            return size;
        }

        boolean isTold(int one, int other) {
            return isStreetNumber(one) && isStreetNumber(other) && (bendsTo[one] >>> other & 1) != 0;
        }

        int tell(int one, int other) {
            if (isStreetNumber(one) && isStreetNumber(other) && !isTold(one, other)) {
                bendsTo[one] |= 1 << other;
                size++;
            }
            return size;
        }

        int leastFree(int left) {
            for (int street = 0; street < bendsTo.length; street++) {
                if ((left >>> street & 1) != 0 && (bendsTo[street] & left) == 0) {
                    return street;
                }
            }
            return NOT;
        }

        private static boolean isStreetNumber(int street) {
            return street >= 0 && street < MOST_STREETS;
        }
    }

    /** DEEDS, and the search for PLOTS that fit all of them; sets of PLOTS are bits of a long. */
    private static final class Deeds {
        static final int PLACE = -1, MOST_TOGETHER = 5;
        private static final int MOST = 10, NAMES = 8, MOST_WAYS = 1000000;
        private final int[] ones = new int[MOST];
        private final int[] others = new int[MOST];
        private final int[] tolds = new int[MOST];
        private int size;
        private final int[] seats = new int[NAMES];
        private int names;
        private int plots;
        private final int[] begins = new int[MOST_PLOTS];
        private final long[][] fits = new long[MOST_TOGETHER * MOST_TOGETHER][MOST_PLOTS];
        private final long[][] open = new long[MOST_TOGETHER][MOST_TOGETHER];
        private final int[] tried = new int[MOST_TOGETHER];
        private final int[] found = new int[MOST_TOGETHER];
        private int ways;

        static boolean isName(int name) {
            return name >= 0 && name < NAMES;
        }

        int size() {
            return size;
        }

        boolean isFull() {
            return size >= MOST;
        }

        int write(int one, int other, int told) {
            if (!isFull()) {
                ones[size] = one;
                others[size] = other;
                tolds[size] = told;
                size++;
            }
            return size;
        }

        int clear() {
            int were = size;
            size = 0;
            return were;
        }

        boolean mention(int name) {
            for (int d = 0; d < size; d++) {
                if (ones[d] == name || others[d] == name) {
                    return true;
                }
            }
            return false;
        }

        /** Gives the NAMES that are in DEEDS their seats, in order, and tells how many they are. */
        int gatherNames() {
            names = 0;
            for (int name = 0; name < NAMES; name++) {
                seats[name] = mention(name) ? names++ : -1;
            }
            return names;
        }

        int putTogether(Street s, int slack) {
            plots = Math.min(s.size(), MOST_PLOTS);
            ways = 0;
            if (names < 1 || names > MOST_TOGETHER) {
                return 0;
            }
            openAll(s);
            for (int d = 0; d < size; d++) {
                if (others[d] == PLACE) {
                    keepPlace(seat(ones[d]), tolds[d]);
                } else {
                    keepDistance(seat(ones[d]), seat(others[d]), 10 * tolds[d], 10 * slack);
                }
            }
            search(0);
            return ways;
        }

        int foundPlot(int name) {
            return found[seat(name)];
        }

        private int seat(int name) {
            int seat = isName(name) ? seats[name] : 0;
            return seat >= 0 && seat < MOST_TOGETHER ? seat : 0;
        }

        private void openAll(Street s) {
            long every = (1L << plots) - 1;
            for (int p = 0; p < plots; p++) {
                begins[p] = s.begin(p);
                for (int pair = 0; pair < fits.length; pair++) {
                    fits[pair][p] = every & ~(1L << p);
                }
            }
            for (int seat = 0; seat < MOST_TOGETHER; seat++) {
                open[0][seat] = every;
            }
        }

        private void keepPlace(int seat, int place) {
            open[0][seat] &= 1L << place;
        }

        private void keepDistance(int one, int other, int tenths, int slack) {
            long[] byOne = fits[one * MOST_TOGETHER + other];
            long[] byOther = fits[other * MOST_TOGETHER + one];
            for (int p = 0; p < plots; p++) {
                for (int q = 0; q < plots; q++) {
                    if (Math.abs(tenths - (begins[p] - begins[q])) > slack) {
                        byOne[p] &= ~(1L << q);
                        byOther[q] &= ~(1L << p);
                    }
                }
            }
        }

        private void search(int seat) {
            if (seat >= names - 1) {
                countWays(seat);
                return;
            }
            for (int p = 0; p < plots && ways < MOST_WAYS; p++) {
                if ((open[seat][seat] >>> p & 1) != 0 && narrow(seat, p)) {
                    tried[seat] = p;
                    search(seat + 1);
                }
            }
        }

        /** Leaves to the seats behind only what fits this PLOT; false if one has none left. */
        private boolean narrow(int seat, int p) {
            for (int behind = seat + 1; behind < names; behind++) {
                long left = open[seat][behind] & fits[seat * MOST_TOGETHER + behind][p];
                open[seat + 1][behind] = left;
                if (left == 0) {
                    return false;
                }
            }
            return true;
        }

        private void countWays(int seat) {
            long left = open[seat][seat];
            if (left == 0) {
                return;
            }
            if (ways == 0) {
                tried[seat] = Long.numberOfTrailingZeros(left);
                System.arraycopy(tried, 0, found, 0, MOST_TOGETHER);
            }
            ways = Math.min(MOST_WAYS, ways + Long.bitCount(left));
        }
    }

    /** THE TAPE, and the reading of its TEXT: each part is read from the place where the one ahead ended. */
    private static final class Tape {
        static final int NO_FAULT = -1;
        private static final int MOST_BYTES = 120, MOST_OPEN = 6, MOST_DIGITS = 4, END = -1;
        private static final int COMPARING = 2, OPERAND = 5;
        private final int[] bytes = new int[MOST_BYTES];
        private int size;
        private int place;
        private Law law;

        int size() {
            return size;
        }

        boolean hasRoomFor(int n) {
            return size + n <= MOST_BYTES;
        }

        int take(int n, int v) {
            for (int i = 0; i < n && size < MOST_BYTES; i++) {
                bytes[size++] = v >>> 8 * i & 255;
            }
            return size;
        }

        void clear() {
            size = 0;
        }

        /** Writes the TEXT into a LAW; answers its FAULT. */
        int readInto(Law to) {
            place = 0;
            law = to;
            law.clear();
            for (int line = 0; line <= size; line++) {
                if (!readLine()) {
                    return place;
                }
                if (next() == END) {
                    return NO_FAULT;
                }
                if (next() != ';') {
                    return place;
                }
                place++;
            }
            return place;
        }

        private int next() {
            return place >= 0 && place < size ? bytes[place] : END;
        }

        private boolean readLine() {
            if (!readChain(0, 0)) {
                return false;
            }
            if (next() == '?') {
                place++;
                law.append(Law.IF);
                if (!readChain(0, 0)) {
                    return false;
                }
            }
            law.append(Law.GIVE);
            return true;
        }

        /** E, A, B, S and P, at the levels 0 to 4, are all chains of the level below. */
        private boolean readChain(int level, int opened) {
            if (level >= OPERAND) {
                return readOperand(opened);
            }
            if (!readChain(level + 1, opened)) {
                return false;
            }
            for (int link = 0; link < MOST_BYTES && joins(level, next()); link++) {
                int sign = next();
                place++;
                if (!readChain(level + 1, opened)) {
                    return false;
                }
                law.append(sign);
                if (level == COMPARING) {
                    return true;
                }
            }
            return true;
        }

        private static boolean joins(int level, int sign) {
            switch (level) {
                case 0: return sign == '|';
                case 1: return sign == '&';
                case COMPARING: return sign == '<' || sign == '=' || sign == '>';
                case 3: return sign == '+' || sign == '-';
                default: return sign == '*' || sign == '/' || sign == '%';
            }
        }

        private boolean readOperand(int opened) {
            int sign = next();
            if (isDigit(sign)) {
                readNumber();
                return true;
            }
            int name = Law.nameOf(sign);
            if (name >= 0) {
                place++;
                law.append(name);
                return true;
            }
            if (opened >= MOST_OPEN || sign != '(' && sign != '!' && sign != '-') {
                return false;
            }
            place++;
            return sign == '(' ? readInner(opened + 1) : readSigned(sign, opened + 1);
        }

        private boolean readInner(int opened) {
            if (!readChain(0, opened) || next() != ')') {
                return false;
            }
            place++;
            return true;
        }

        private boolean readSigned(int sign, int opened) {
            if (!readOperand(opened)) {
                return false;
            }
            law.append(sign == '!' ? Law.NO : Law.MINUS);
            return true;
        }

        private void readNumber() {
            int number = 0;
            for (int digit = 0; digit < MOST_DIGITS && isDigit(next()); digit++) {
                number = number * 10 + next() - '0';
                place++;
            }
            law.append(Law.NUMBER + number);
        }

        private static boolean isDigit(int sign) {
            return sign >= '0' && sign <= '9';
        }
    }

    /** A TEXT with each sign behind what it works on, and the TOWNS that are laid by it. */
    private static final class Law {
        static final int IF = '?', GIVE = ';', NO = '!', MINUS = '~', NUMBER = 256;
        private static final char[] NAMES = {'w', 'n', 'd', 'y', 'z', 'f', 'i', 'c'};
        private static final int MOST_SIGNS = 128, MOST_OPERANDS = 64;
        private final int[] signs = new int[MOST_SIGNS];
        private int size;
        private final int[] known = new int[NAMES.length];
        private final int[] operands = new int[MOST_OPERANDS];
        private int top;

        static int nameOf(int sign) {
            for (int name = 0; name < NAMES.length; name++) {
                if (NAMES[name] == sign) {
                    return name;
                }
            }
            return NOT;
        }

        void clear() {
            size = 0;
        }

        void append(int sign) {
            if (size < MOST_SIGNS) {
                signs[size++] = sign;
            }
        }

        void lay(Street town, int nw, int years, int seed) {
            town.clear();
            for (int p = 0; p < nw / 1000; p++) {
                town.append(nw % 1000, 100, 0);
            }
            int z = seed;
            for (int year = 0; year < years && town.size() > 0; year++) {
                z = drawAfter(z);
                int plot = (z >>> 8) % town.size();
                z = drawAfter(z);
                learn(town, plot, year, (z >>> 8) % 100, nw % 1000);
                changeTown(town, plot, gives());
            }
        }

        private static void changeTown(Street town, int plot, int change) {
            switch (change) {
                case 1: town.join(plot); break;
                case 2: town.part(plot); break;
                case 3: town.stepAside(plot); break;
                default: break;
            }
        }

        private void learn(Street town, int plot, int year, int draw, int firstWidth) {
            known[0] = town.width(plot);
            known[1] = town.width(plot + 1);
            known[2] = town.fact(DEPTH, plot);
            known[3] = year;
            known[4] = draw;
            known[5] = quotient(town.width(plot), firstWidth);
            known[6] = plot;
            known[7] = town.size();
        }

        private int gives() {
            top = 0;
            boolean passing = false;
            for (int at = 0; at < size; at++) {
                int sign = signs[at];
                if (passing) {
                    passing = sign != GIVE;
                } else if (sign == GIVE) {
                    return pop();
                } else if (sign == IF) {
                    passing = pop() == 0;
                } else {
                    work(sign);
                }
            }
            return 0;
        }

        private void work(int sign) {
            if (sign >= NUMBER) {
                push(sign - NUMBER);
            } else if (sign >= 0 && sign < known.length) {
                push(known[sign]);
            } else if (sign == NO) {
                push(truth(pop() == 0));
            } else if (sign == MINUS) {
                push(-pop());
            } else {
                int right = pop();
                push(join(sign, pop(), right));
            }
        }

        private static int join(int sign, int left, int right) {
            switch (sign) {
                case '|': return truth(left != 0 || right != 0);
                case '&': return truth(left != 0 && right != 0);
                case '<': return truth(left < right);
                case '=': return truth(left == right);
                case '>': return truth(left > right);
                case '+': return left + right;
                case '-': return left - right;
                case '*': return left * right;
                case '/': return quotient(left, right);
                case '%': return right == 0 ? 0 : left % right;
                default: return 0;
            }
        }

        private static int quotient(int left, int right) {
            return right == 0 ? 0 : left / right;
        }

        private static int truth(boolean is) {
            return is ? 1 : 0;
        }

        private void push(int v) {
            if (top < MOST_OPERANDS) {
                operands[top++] = v;
            }
        }

        private int pop() {
            return top > 0 ? operands[--top] : 0;
        }
    }

    /** LINES, and their ACTS: which body runs is looked up from a KIND on, and then above it. */
    private static final class Lines {
        private static final int MOST = 50, KINDS = 8, ACTS = 4, MOST_TRACED = 24, DEEPEST = 40;
        private static final int RUNS = 0, BREAKS = 1, LEADS = 2, TELLS = 3;
        private static final int[] ABOVE = {-1, 0, 0, 0, 3, 1, 0, 1};
        /** Of each KIND, by ACTS, the number of its own body; 0: it has none. */
        private static final int[] OWN_BODIES = {
            1, 10, 11, 2,
            20, 0, 0, 0,
            0, 30, 0, 0,
            0, 0, 40, 0,
            0, 0, 50, 51,
            0, 60, 0, 0,
            70, 0, 0, 0,
            80, 0, 81, 0,
        };
        private final int[] kinds = new int[MOST];
        private int size;
        private final int[] trace = new int[MOST_TRACED];
        private int ran;

        static boolean isKind(int kind) {
            return kind >= 0 && kind < KINDS;
        }

        static boolean isUnder(int kind, int above) {
            int k = kind;
            for (int step = 0; step < KINDS && isKind(k); step++) {
                if (k == above) {
                    return true;
                }
                k = ABOVE[k];
            }
            return false;
        }

        int size() {
            return size;
        }

        boolean isFull() {
            return size >= MOST;
        }

        boolean has(int line) {
            return line >= 0 && line < size;
        }

        int append(int kind) {
            if (isFull()) {
                return FULL;
            }
            kinds[size] = kind;
            return size++;
        }

        int kindOf(int line) {
            return has(line) ? kinds[line] : -1;
        }

        int bodiesThatRan() {
            return ran;
        }

        int traced(int i) {
            return i >= 0 && i < ran && i < MOST_TRACED ? trace[i] : BAD;
        }

        int perform(int line, int act, int x) {
            ran = 0;
            if (!has(line) || act < 0 || act >= ACTS) {
                return 0;
            }
            return call(line, kinds[line], act, x, 0);
        }

        /** Runs the body of an ACT that is found from a KIND on; super is a call from the KIND above. */
        private int call(int line, int kind, int act, int x, int depth) {
            int owner = kind;
            for (int step = 0; step < KINDS && isKind(owner) && OWN_BODIES[owner * ACTS + act] == 0; step++) {
                owner = ABOVE[owner];
            }
            if (!isKind(owner) || depth > DEEPEST) {
                return 0;
            }
            int number = OWN_BODIES[owner * ACTS + act];
            if (ran < MOST_TRACED) {
                trace[ran] = number;
            }
            ran++;
            return owner == 0 ? runLine(line, number, x, depth + 1) : runUnder(line, owner, number, x, depth + 1);
        }

        private int runLine(int line, int number, int x, int depth) {
            int kind = kindOf(line);
            switch (number) {
                case 1: return x + line;
                case 2: return call(line, kind, BREAKS, x, depth) - call(line, kind, LEADS, 1, depth);
                case 10: return call(line, kind, RUNS, x, depth) * 2;
                default: return x ^ line;
            }
        }

        private int runUnder(int line, int owner, int number, int x, int depth) {
            int kind = kindOf(line);
            int above = isKind(owner) ? ABOVE[owner] : 0;
            switch (number) {
                case 20: return call(line, above, RUNS, x, depth) + 3;
                case 30: return -call(line, above, BREAKS, x, depth);
                case 40: return call(line, above, LEADS, x, depth) * 3;
                case 50: return call(line, above, LEADS, x, depth) - call(line, kind, RUNS, 2, depth);
                case 51: return call(line, above, TELLS, x, depth) ^ 5;
                case 60: return call(line, above, BREAKS, x, depth) + call(line, kind, LEADS, 2, depth);
                case 70: return call(line, above, RUNS, x + 1, depth);
                case 80: return call(line, above, RUNS, x, depth) * 2;
                default: return call(line, above, LEADS, x, depth) - 1;
            }
        }
    }

    /** Holds nothing, a LINE or a ROW; elements of every sort are kept as longs that are cut to it. */
    private static final class Shelf {
        static final int MOST_ELEMENTS = 60;
        private static final int BYTES = 0, SHORTS = 1, INTS = 2, LONGS = 3, BOOLEANS = 4;
        private static final int NOTHING = -1, LINE = -2;
        private final long[] elements = new long[MOST_ELEMENTS];
        private int holds = NOTHING;
        private int size;
        private int line;

        static boolean isSort(int sort) {
            return sort >= BYTES && sort <= BOOLEANS;
        }

        boolean isEmpty() {
            return holds == NOTHING;
        }

        boolean holdsLine() {
            return holds == LINE;
        }

        boolean holdsShorts() {
            return holds == SHORTS;
        }

        boolean holdsRowLike(Shelf other) {
            return isSort(holds) && holds == other.holds;
        }

        int line() {
            return line;
        }

        void holdNothing() {
            holds = NOTHING;
        }

        void holdLine(int number) {
            holds = LINE;
            line = number;
        }

        void holdRow(int sort, int n) {
            holds = sort;
            size = n;
            for (int i = 0; i < MOST_ELEMENTS; i++) {
                elements[i] = 0;
            }
        }

        /** Why the element can't be had, or 0. */
        int refusal(int i) {
            if (isEmpty()) {
                return NOTHING_THERE;
            }
            if (!isSort(holds)) {
                return OTHER_KIND;
            }
            return spans(i, 1) ? 0 : NO_PLACE;
        }

        boolean spans(int i, int n) {
            return i >= 0 && n >= 0 && i <= size && n <= size - i;
        }

        long read(int i) {
            return spans(i, 1) ? elements[i] : 0;
        }

        void write(int i, long v) {
            if (spans(i, 1)) {
                elements[i] = cut(v);
            }
        }

        private long cut(long v) {
            switch (holds) {
                case BYTES: return (byte) v;
                case SHORTS: return (short) v;
                case INTS: return (int) v;
                case BOOLEANS: return v != 0 ? 1 : 0;
                default: return v;
            }
        }

        void copyTo(Shelf to, int i, int j, int n) {
            if (spans(i, n) && to.spans(j, n)) {
                System.arraycopy(elements, i, to.elements, j, n);
            }
        }
    }
}
