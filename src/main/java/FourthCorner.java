import java.util.Arrays;

/** A bed with four corners and a sheet with elastic. DOC.md tells what each call answers and refuses. */
public final class FourthCorner {
    public static final int UNKNOWN = -1, OUTSIDE = -2, STATE = -3, FULL = -4, NONE = -9;

    private static final int CORNERS = 4;
    private static final int DEPTH_LIMIT = 6;
    private static final int BEND_LIMIT = 3;
    private static final int TEXT_LIMIT = 24;
    private static final int ACT_LIMIT = 16;
    private static final int SLOTS = 2;
    private static final int LOOK_LIMIT = 3;
    private static final int WASH_LIMIT = 9;

    /** The least and the greatest letter that a BED may have at each place. */
    private static final String LEAST_LETTERS = "B111110000L00L00L00";
    private static final String GREATEST_LETTERS = "B399999999L39L39L39";
    private static final int GRIPS_PLACE = 2;
    private static final int SLACKS_PLACE = 6;
    private static final int LOOKS_PLACE = 10;
    private static final int LOOK_LETTERS = 3;

    private static final int[] TENS = {1, 10, 100, 1000, 10000, 100000, 1000000, 10000000, 100000000};

    /** A state of a search is a row of depths, read as a number to the base 7. */
    private static final int STATES = 2401;
    private static final int[] SEVENS = {343, 49, 7, 1};

    /** All orders of four, as four figures, the first one first. */
    private static final int[] ORDERS = {
        123, 132, 213, 231, 312, 321, 1023, 1032, 1203, 1230, 1302, 1320,
        2013, 2031, 2103, 2130, 2301, 2310, 3012, 3021, 3102, 3120, 3201, 3210};

    private final int[] text = new int[TEXT_LIMIT];
    private int length = 0;
    private final Sheet sheet = new Sheet();
    /** What is only asked for is played on this one, so that the sheet itself stays as it is. */
    private final Sheet trial = new Sheet();
    private final Looks looks = new Looks();
    private final Memory past = new Memory(ACT_LIMIT);
    private int firstAct = 0;
    private int acts = 0;
    private final Memory slots = new Memory(SLOTS);
    private final boolean[] slotFilled = new boolean[SLOTS];
    private final Screws screws = new Screws();
    /** Made when it is first needed: its rows are long, and many beds never need them. */
    private Search search = null;
    private long theSeed = 0L;

    public FourthCorner() {
    }

    // ---- the bed

    public int write(int letter) {
        if (letter < 0 || letter > 255) {
            return OUTSIDE;
        }
        if (length >= TEXT_LIMIT) {
            return FULL;
        }
        text[length] = letter;
        length++;
        return length;
    }

    public int wipe() {
        int before = length;
        length = 0;
        return before;
    }

    public int fault() {
        for (int place = 0; place < length; place++) {
            if (!fits(place, text[place])) {
                return place;
            }
        }
        boolean whole = length >= LOOKS_PLACE && (length - LOOKS_PLACE) % LOOK_LETTERS == 0;
        return whole ? NONE : length;
    }

    public int bed() {
        if (fault() != NONE) {
            return STATE;
        }
        sheet.stiff = figureAt(1);
        for (int i = 0; i < CORNERS; i++) {
            sheet.grips[i] = figureAt(GRIPS_PLACE + i);
            sheet.slacks[i] = figureAt(SLACKS_PLACE + i);
            sheet.depths[i] = 0;
            sheet.bends[i] = 0;
        }
        looks.many = 0;
        for (int place = LOOKS_PLACE; place < length; place += LOOK_LETTERS) {
            looks.hear(figureAt(place + 1), figureAt(place + 2));
        }
        acts = 0;
        for (int slot = 0; slot < SLOTS; slot++) {
            slotFilled[slot] = false;
        }
        return looks.many;
    }

    public int corner(int corner, int what) {
        if (!isCorner(corner)) {
            return UNKNOWN;
        }
        switch (what) {
            case 0:
                return sheet.depths[corner];
            case 1:
                return sheet.bends[corner];
            case 2:
                return sheet.grips[corner];
            case 3:
                return sheet.pullAt(corner);
            case 4:
                return sheet.holds(corner) ? 1 : 0;
            case 5:
                return sheet.counting(corner);
            default:
                return OUTSIDE;
        }
    }

    public int edge(int edge, int what) {
        if (!isCorner(edge)) {
            return UNKNOWN;
        }
        switch (what) {
            case 0:
                return sheet.slacks[edge];
            case 1:
                return sheet.pullOf(edge);
            default:
                return OUTSIDE;
        }
    }

    public int would(int row, int what) {
        if (!isRow(row, 0) || what < 0 || what > 2) {
            return OUTSIDE;
        }
        trial.become(sheet);
        layFigures(row, trial.depths);
        if (what == 0) {
            return trial.looseBits();
        }
        if (what == 1) {
            return trial.firstToSlip();
        }
        trial.settle();
        return asFigures(trial.depths);
    }

    // ---- acts

    public int set(int corner, int depth) {
        if (!isCorner(corner)) {
            return UNKNOWN;
        }
        if (depth < 0 || depth > DEPTH_LIMIT) {
            return OUTSIDE;
        }
        if (sheet.depths[corner] == depth) {
            return STATE;
        }
        remember();
        sheet.depths[corner] = depth;
        return sheet.settle();
    }

    public int bend(int corner, int bend) {
        if (!isCorner(corner)) {
            return UNKNOWN;
        }
        if (bend < 0 || bend > BEND_LIMIT) {
            return OUTSIDE;
        }
        if (sheet.bends[corner] == bend) {
            return STATE;
        }
        remember();
        sheet.bends[corner] = bend;
        return sheet.settle();
    }

    public int wash() {
        remember();
        sheet.shrink();
        return sheet.settle();
    }

    public int turn() {
        if (sheet.cornersOn() != 0) {
            return STATE;
        }
        remember();
        int last = sheet.slacks[CORNERS - 1];
        for (int edge = CORNERS - 1; edge > 0; edge--) {
            sheet.slacks[edge] = sheet.slacks[edge - 1];
        }
        sheet.slacks[0] = last;
        return last;
    }

    public int undo() {
        if (acts <= 0) {
            return STATE;
        }
        acts--;
        past.give((firstAct + acts) % ACT_LIMIT, sheet);
        return acts;
    }

    public int judge(int n, int row) {
        if (n < 1 || n > 4 || row < 0 || row >= TENS[2 * n]) {
            return OUTSIDE;
        }
        trial.become(sheet);
        for (int i = 0; i < n; i++) {
            int corner = figureOf(row, 2 * n, 2 * i);
            int depth = figureOf(row, 2 * n, 2 * i + 1);
            if (!isCorner(corner) || depth > DEPTH_LIMIT || trial.depths[corner] == depth) {
                return i;
            }
            trial.depths[corner] = depth;
            if (trial.settle() != 0) {
                return i;
            }
        }
        return NONE;
    }

    // ---- rows

    public int rows(int m) {
        if (!isAim(m)) {
            return OUTSIDE;
        }
        trial.become(sheet);
        return trial.rowsFrom(m);
    }

    public int rowOf(int m) {
        if (!isAim(m)) {
            return OUTSIDE;
        }
        trial.become(sheet);
        return trial.riseToRow(m) ? asFigures(trial.depths) : NONE;
    }

    public int deepest() {
        trial.become(sheet);
        for (int m = DEPTH_LIMIT; m > 0; m--) {
            if (trial.riseToRow(m)) {
                return m;
            }
        }
        return 0;
    }

    public int fewest(int m) {
        if (!isAim(m)) {
            return OUTSIDE;
        }
        Search found = searchFromNow();
        return found.find(m, false) ? found.steps() : NONE;
    }

    public int fewestAt(int m, int i) {
        if (!isAim(m)) {
            return OUTSIDE;
        }
        Search found = searchFromNow();
        return found.find(m, false) ? found.step(i) : NONE;
    }

    public int byTwo(int m) {
        if (!isAim(m)) {
            return OUTSIDE;
        }
        Search found = searchFromNow();
        return found.find(m, true) ? found.steps() : NONE;
    }

    public int orders(int row, int what) {
        if (!isRow(row, 1) || what < 0 || what > 1) {
            return OUTSIDE;
        }
        return what == 0 ? ordersTo(row, row) : firstOrder(row);
    }

    public int creases(int row) {
        if (!isRow(row, 1)) {
            return OUTSIDE;
        }
        return ordersTo(row, asFigures(sheet.depths));
    }

    public int bending(int m) {
        if (!isAim(m)) {
            return OUTSIDE;
        }
        trial.become(sheet);
        int best = NONE;
        int bestSum = CORNERS * BEND_LIMIT + 1;
        for (int code = 0; code < 256; code++) {
            int sum = 0;
            for (int corner = 0; corner < CORNERS; corner++) {
                trial.bends[corner] = (code >> (2 * (3 - corner))) & 3;
                sum += trial.bends[corner];
            }
            if (sum < bestSum && trial.riseToRow(m)) {
                bestSum = sum;
                best = asFigures(trial.bends);
            }
        }
        return best;
    }

    public int washes(int m) {
        if (!isAim(m)) {
            return OUTSIDE;
        }
        trial.become(sheet);
        for (int washed = 0; washed <= WASH_LIMIT; washed++) {
            if (!trial.riseToRow(m)) {
                return washed;
            }
            trial.shrink();
        }
        return NONE;
    }

    // ---- ways, drums, drawers

    public int likely(int corner, boolean upper) {
        if (!isCorner(corner)) {
            return UNKNOWN;
        }
        int all = looks.weightOfAll();
        if (all == 0) {
            return STATE;
        }
        return fraction(looks.weight(corner), all, upper);
    }

    public int tries(boolean upper) {
        int all = looks.weightOfAll();
        if (all == 0) {
            return STATE;
        }
        return fraction(looks.weightOfTries(), all, upper);
    }

    public int drum(int screw, int n, int row) {
        if (!isCorner(screw)) {
            return UNKNOWN;
        }
        if (n < 0 || n > 8 || row < 0 || row >= TENS[n] || !areScrews(n, row)) {
            return OUTSIDE;
        }
        screws.loosen();
        for (int i = 0; i < n; i++) {
            screws.tighten(figureOf(row, n, i));
        }
        return screws.turns[screw];
    }

    public int cross(int n, int what) {
        if (n < 1 || n > 5 || what < 0 || what > 2) {
            return OUTSIDE;
        }
        int many = 0;
        int first = ORDERS[0];
        int least = screws.gapBy(first, n);
        for (int i = 0; i < ORDERS.length; i++) {
            int gap = screws.gapBy(ORDERS[i], n);
            if (gap < least) {
                least = gap;
                first = ORDERS[i];
                many = 0;
            }
            many += gap == least ? 1 : 0;
        }
        return what == 0 ? many : what == 1 ? first : least;
    }

    public int drawer(int n, int k, boolean upper) {
        if (n < 1 || n > 12 || k < 1 || k > n) {
            return OUTSIDE;
        }
        // The k wanted ones part the other n - k into k + 1 stretches of like mean length;
        // one such stretch is drawn, and then the first wanted one.
        return fraction(n + 1, k + 1, upper);
    }

    public long seed(long v) {
        long before = theSeed;
        theSeed = v;
        return before;
    }

    public int ward(int m) {
        if (m < 1 || m > 30) {
            return OUTSIDE;
        }
        trial.become(sheet);
        int whole = 0;
        for (int i = 0; i < m; i++) {
            trial.takeOff();
            for (int corner = 0; corner < CORNERS; corner++) {
                theSeed = theSeed * 6364136223846793005L + 1442695040888963407L;
                trial.depths[corner] = (int) ((theSeed >>> 33) % DEPTH_LIMIT) + 1;
                trial.settle();
            }
            whole += trial.cornersOn() == CORNERS ? 1 : 0;
        }
        return whole;
    }

    // ---- slots

    public int keep(int slot) {
        if (slot < 0 || slot >= SLOTS) {
            return UNKNOWN;
        }
        slots.take(slot, sheet);
        slotFilled[slot] = true;
        return sheet.cornersOn();
    }

    public int again(int slot) {
        if (slot < 0 || slot >= SLOTS) {
            return UNKNOWN;
        }
        if (!slotFilled[slot]) {
            return STATE;
        }
        slots.give(slot, sheet);
        acts = 0;
        return sheet.cornersOn();
    }

    public int count(int what) {
        switch (what) {
            case 0:
                return length;
            case 1:
                return sheet.stiff;
            case 2:
                return looks.many;
            case 3:
                return sheet.onBits();
            case 4:
                return asFigures(sheet.depths);
            case 5:
                return asFigures(sheet.bends);
            case 6:
                return asFigures(sheet.slacks);
            case 7:
                return acts;
            case 8:
                return sheet.pullOf(0) + sheet.pullOf(1) + sheet.pullOf(2) + sheet.pullOf(3);
            default:
                return OUTSIDE;
        }
    }

    // ---- what the calls share

    private static boolean isCorner(int corner) {
        return corner >= 0 && corner < CORNERS;
    }

    private static boolean isAim(int m) {
        return m >= 1 && m <= DEPTH_LIMIT;
    }

    private static boolean isRow(int row, int least) {
        if (row < 0 || row >= TENS[CORNERS]) {
            return false;
        }
        for (int corner = 0; corner < CORNERS; corner++) {
            int depth = figureOf(row, CORNERS, corner);
            if (depth < least || depth > DEPTH_LIMIT) {
                return false;
            }
        }
        return true;
    }

    private static boolean areScrews(int n, int row) {
        for (int i = 0; i < n; i++) {
            if (!isCorner(figureOf(row, n, i))) {
                return false;
            }
        }
        return true;
    }

    private static boolean fits(int place, int letter) {
        return place < LEAST_LETTERS.length() && place < GREATEST_LETTERS.length()
            && letter >= LEAST_LETTERS.charAt(place) && letter <= GREATEST_LETTERS.charAt(place);
    }

    private int figureAt(int place) {
        return place >= 0 && place < length ? text[place] - '0' : 0;
    }

    /** The figure at a place (0 is the foremost) of a number that is told in so many figures. */
    private static int figureOf(int number, int figures, int place) {
        int behind = figures - 1 - place;
        return behind >= 0 && behind < TENS.length ? number / TENS[behind] % 10 : 0;
    }

    private static void layFigures(int row, int[] into) {
        for (int i = 0; i < CORNERS && i < into.length; i++) {
            into[i] = figureOf(row, CORNERS, i);
        }
    }

    private static int asFigures(int[] four) {
        int figures = 0;
        for (int i = 0; i < four.length; i++) {
            figures = 10 * figures + four[i];
        }
        return figures;
    }

    private static int fraction(int above, int below, boolean upper) {
        int divisor = below;
        int rest = above;
        // Euclid's steps: 64 are more than two ints can need.
        for (int i = 0; i < 64 && rest != 0; i++) {
            int next = divisor % rest;
            divisor = rest;
            rest = next;
        }
        if (divisor == 0) {
            return 0;
        }
        return (upper ? above : below) / divisor;
    }

    private void remember() {
        if (acts >= ACT_LIMIT) {
            firstAct = (firstAct + 1) % ACT_LIMIT;
            acts = ACT_LIMIT - 1;
        }
        past.take((firstAct + acts) % ACT_LIMIT, sheet);
        acts++;
    }

    private Search searchFromNow() {
        trial.become(sheet);
        if (search != null) {
            return search;
        }
        Search made = new Search(trial);
        search = made;
        return made;
    }

    private int ordersTo(int row, int end) {
        int many = 0;
        for (int i = 0; i < ORDERS.length; i++) {
            many += endOf(ORDERS[i], row) == end ? 1 : 0;
        }
        return many;
    }

    private int firstOrder(int row) {
        for (int i = 0; i < ORDERS.length; i++) {
            if (endOf(ORDERS[i], row) == row) {
                return ORDERS[i];
            }
        }
        return NONE;
    }

    private int endOf(int order, int row) {
        trial.become(sheet);
        trial.takeOff();
        for (int i = 0; i < CORNERS; i++) {
            int corner = figureOf(order, CORNERS, i);
            if (isCorner(corner)) {
                trial.depths[corner] = figureOf(row, CORNERS, corner);
                trial.settle();
            }
        }
        return asFigures(trial.depths);
    }

    /** A bed with its sheet: what it is made of, and how it lies. A row's index is 0 to 3 everywhere. */
    private static final class Sheet {
        int stiff = 1;
        final int[] grips = {1, 1, 1, 1};
        final int[] slacks = {0, 0, 0, 0};
        final int[] depths = {0, 0, 0, 0};
        final int[] bends = {0, 0, 0, 0};

        void become(Sheet other) {
            stiff = other.stiff;
            for (int i = 0; i < CORNERS; i++) {
                grips[i] = other.grips[i];
                slacks[i] = other.slacks[i];
                depths[i] = other.depths[i];
                bends[i] = other.bends[i];
            }
        }

        void takeOff() {
            for (int corner = 0; corner < CORNERS; corner++) {
                depths[corner] = 0;
            }
        }

        void shrink() {
            for (int edge = 0; edge < CORNERS; edge++) {
                slacks[edge] = slacks[edge] > 0 ? slacks[edge] - 1 : 0;
            }
        }

        int counting(int corner) {
            return depths[corner] > bends[corner] ? depths[corner] - bends[corner] : 0;
        }

        int pullOf(int edge) {
            int next = (edge + 1) % CORNERS;
            if (depths[edge] == 0 || depths[next] == 0) {
                return 0;
            }
            int stretch = counting(edge) + counting(next) - slacks[edge];
            return stretch > 0 ? stiff * stretch : 0;
        }

        int pullAt(int corner) {
            return pullOf((corner + CORNERS - 1) % CORNERS) + pullOf(corner);
        }

        /** A corner that is off has no pull, so it needs no word of its own. */
        boolean holds(int corner) {
            return pullAt(corner) <= grips[corner] * depths[corner];
        }

        int looseBits() {
            int bits = 0;
            for (int corner = 0; corner < CORNERS; corner++) {
                bits |= holds(corner) ? 0 : 1 << corner;
            }
            return bits;
        }

        int firstToSlip() {
            int first = NONE;
            int most = 0;
            int pullBefore = pullOf(CORNERS - 1);
            for (int corner = 0; corner < CORNERS; corner++) {
                int pullBehind = pullOf(corner);
                int excess = pullBefore + pullBehind - grips[corner] * depths[corner];
                if (excess > most) {
                    most = excess;
                    first = corner;
                }
                pullBefore = pullBehind;
            }
            return first;
        }

        int settle() {
            int bits = 0;
            for (int i = 0; i < CORNERS; i++) {
                int corner = firstToSlip();
                if (corner == NONE) {
                    break;
                }
                depths[corner] = 0;
                bits |= 1 << corner;
            }
            return bits;
        }

        /**
         * Lays the least ROW of m, if there is one. A corner that does not hold at some depths does not hold
         * at its depth if others go deeper either, as pull only grows by it: so in every ROW that is nowhere
         * less deep it is deeper, and may be raised. What is reached first is the least at each corner.
         */
        boolean riseToRow(int m) {
            for (int corner = 0; corner < CORNERS; corner++) {
                depths[corner] = m;
            }
            for (int raised = 0; raised <= CORNERS * DEPTH_LIMIT; raised++) {
                int corner = firstToSlip();
                if (corner == NONE) {
                    return true;
                }
                if (depths[corner] >= DEPTH_LIMIT) {
                    return false;
                }
                depths[corner]++;
            }
            return false;
        }

        int rowsFrom(int m) {
            int many = 0;
            for (int zeroth = m; zeroth <= DEPTH_LIMIT; zeroth++) {
                depths[0] = zeroth;
                for (int first = m; first <= DEPTH_LIMIT; first++) {
                    depths[1] = first;
                    for (int second = m; second <= DEPTH_LIMIT; second++) {
                        depths[2] = second;
                        for (int third = m; third <= DEPTH_LIMIT; third++) {
                            depths[3] = third;
                            many += firstToSlip() == NONE ? 1 : 0;
                        }
                    }
                }
            }
            return many;
        }

        int onBits() {
            int bits = 0;
            for (int corner = 0; corner < CORNERS; corner++) {
                bits |= depths[corner] > 0 ? 1 << corner : 0;
            }
            return bits;
        }

        int cornersOn() {
            return Integer.bitCount(onBits());
        }
    }

    /** Places that keep how a sheet lies, each row as four figures. */
    private static final class Memory {
        private final int[] depths;
        private final int[] bends;
        private final int[] slacks;

        Memory(int places) {
            int many = Math.max(0, places);
            depths = new int[many];
            bends = new int[many];
            slacks = new int[many];
        }

        void take(int place, Sheet from) {
            if (place >= 0 && place < depths.length) {
                depths[place] = asFigures(from.depths);
                bends[place] = asFigures(from.bends);
                slacks[place] = asFigures(from.slacks);
            }
        }

        void give(int place, Sheet to) {
            if (place >= 0 && place < depths.length) {
                layFigures(depths[place], to.depths);
                layFigures(bends[place], to.bends);
                layFigures(slacks[place], to.slacks);
            }
        }
    }

    /** The fewest SETS on a sheet, by breadth: what is come to first is come to by the first row of SETS. */
    private static final class Search {
        private final Sheet sheet;
        private final int[] queue = new int[STATES];
        private int size = 0;
        /** How a state was first come to: 100 times the state before, the SET, and 1; 0: not yet. */
        private final int[] trail = new int[STATES];
        /** Which corners were already SET to every depth from a state in which these are off. */
        private final int[] spent = new int[STATES];
        private int goal = 0;

        Search(Sheet sheet) {
            this.sheet = sheet;
        }

        /** From how the sheet lies; it lies otherwise behind this. */
        boolean find(int m, boolean two) {
            Arrays.fill(trail, 0);
            Arrays.fill(spent, 0);
            queue[0] = state();
            trail[queue[0]] = 1;
            size = 1;
            for (int at = 0; at < size && at < STATES; at++) {
                if (isDeep(queue[at], m)) {
                    goal = queue[at];
                    return true;
                }
                for (int a = 0; a < CORNERS; a++) {
                    int lastB = two ? CORNERS - 1 : a;
                    for (int b = two ? a + 1 : a; b <= lastB; b++) {
                        spread(queue[at], a, b);
                    }
                }
            }
            return false;
        }

        /**
         * SETS corner a, and b if it is another one, to every depth. What comes of it does not depend on how
         * deep they were, so states that differ only there need it once.
         */
        private void spread(int from, int a, int b) {
            int rest = without(without(from, a), b);
            int bit = 1 << (CORNERS * a + b);
            if ((spent[rest] & bit) != 0) {
                return;
            }
            spent[rest] |= bit;
            int depthsOfB = a == b ? 0 : DEPTH_LIMIT;
            for (int depth = 0; depth <= DEPTH_LIMIT; depth++) {
                for (int other = 0; other <= depthsOfB; other++) {
                    lay(rest + depth * SEVENS[a] + other * SEVENS[b]);
                    sheet.settle();
                    int to = state();
                    if (trail[to] == 0 && size < STATES) {
                        trail[to] = 100 * from + 10 * a + depth + 1;
                        queue[size] = to;
                        size++;
                    }
                }
            }
        }

        /** How many SETS it took to the goal. */
        int steps() {
            int many = 0;
            for (int at = goal; at != queue[0] && many < STATES; at = (trail[at] - 1) / 100) {
                many++;
            }
            return many;
        }

        int step(int i) {
            int many = steps();
            if (i < 0 || i >= many) {
                return NONE;
            }
            int at = goal;
            for (int behind = many - 1; behind > i; behind--) {
                at = (trail[at] - 1) / 100;
            }
            return (trail[at] - 1) % 100;
        }

        private int state() {
            int state = 0;
            for (int corner = 0; corner < CORNERS; corner++) {
                state += sheet.depths[corner] * SEVENS[corner];
            }
            return state;
        }

        private void lay(int state) {
            for (int corner = 0; corner < CORNERS; corner++) {
                sheet.depths[corner] = state / SEVENS[corner] % 7;
            }
        }

        private static int without(int state, int corner) {
            return state - state / SEVENS[corner] % 7 * SEVENS[corner];
        }

        private static boolean isDeep(int state, int m) {
            for (int corner = 0; corner < CORNERS; corner++) {
                if (state / SEVENS[corner] % 7 < m) {
                    return false;
                }
            }
            return true;
        }
    }

    /** What was looked at to learn which way round the sheet is. */
    private static final class Looks {
        int many = 0;
        private final int[] corners = new int[LOOK_LIMIT];
        private final int[] tenths = new int[LOOK_LIMIT];

        void hear(int corner, int tenth) {
            if (many < LOOK_LIMIT) {
                corners[many] = corner;
                tenths[many] = tenth;
                many++;
            }
        }

        /** How likely the label is there and all was so told, in like parts for all corners: thirtieths. */
        int weight(int corner) {
            int weight = 1;
            for (int i = 0; i < many && i < LOOK_LIMIT; i++) {
                weight *= corners[i] == corner ? 3 * tenths[i] : 10 - tenths[i];
            }
            return weight;
        }

        int weightOfAll() {
            return weight(0) + weight(1) + weight(2) + weight(3);
        }

        /** Each weight times the try at which it comes, the likelier first: of like ones the order is free. */
        int weightOfTries() {
            int sum = 0;
            for (int corner = 0; corner < CORNERS; corner++) {
                int place = 1;
                for (int other = 0; other < CORNERS; other++) {
                    boolean ahead = weight(other) > weight(corner)
                        || weight(other) == weight(corner) && other < corner;
                    place += ahead ? 1 : 0;
                }
                sum += place * weight(corner);
            }
            return sum;
        }
    }

    /** Four screws round a drum. */
    private static final class Screws {
        final int[] turns = {0, 0, 0, 0};

        void loosen() {
            for (int screw = 0; screw < CORNERS; screw++) {
                turns[screw] = 0;
            }
        }

        void tighten(int screw) {
            if (isCorner(screw)) {
                turns[screw] += 4;
                giveWay((screw + 1) % CORNERS);
                giveWay((screw + CORNERS - 1) % CORNERS);
            }
        }

        private void giveWay(int screw) {
            turns[screw] = turns[screw] > 0 ? turns[screw] - 1 : 0;
        }

        int gapBy(int order, int rounds) {
            loosen();
            for (int i = 0; i < CORNERS * rounds; i++) {
                tighten(figureOf(order, CORNERS, i % CORNERS));
            }
            int greatest = Math.max(Math.max(turns[0], turns[1]), Math.max(turns[2], turns[3]));
            int least = Math.min(Math.min(turns[0], turns[1]), Math.min(turns[2], turns[3]));
            return greatest - least;
        }
    }
}
