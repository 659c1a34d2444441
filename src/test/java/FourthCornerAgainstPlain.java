import java.math.BigInteger;
import java.nio.charset.StandardCharsets;
import java.util.ArrayDeque;
import java.util.ArrayList;
import java.util.Arrays;
import java.util.Deque;
import java.util.List;
import java.util.Random;
import java.util.regex.Matcher;
import java.util.regex.Pattern;

/**
 * Runs of 512 calls on the class and on a plain model of the document, which tries everything out where the
 * class is clever. The runs are drawn from fixed seeds, so they are the same each time.
 */
public final class FourthCornerAgainstPlain {
    private static final int UNKNOWN = -1, OUTSIDE = -2, STATE = -3, FULL = -4, NONE = -9;
    private static final int RUNS = 400;
    /** The document: "An object is used for at most 512 calls after it has been made". */
    private static final int CALLS = 512;
    /** No step of a run makes more calls than this: a bed of 22 letters, three calls with it, and two looks. */
    private static final int CALLS_OF_A_STEP = 27;

    private static int wrong = 0;

    public static void main(String[] args) {
        for (int run = 0; run < RUNS && wrong < 20; run++) {
            new Run(run).go();
        }
        System.out.println(wrong == 0 ? "all " + RUNS + " runs of " + CALLS + " calls agree"
            : "some answers are not as due");
        if (wrong != 0) {
            System.exit(1);
        }
    }

    /** One object, its model, and what was called so far. */
    private static final class Run {
        private final Random random;
        private final FourthCorner real = new FourthCorner();
        private final Plain plain = new Plain();
        private final List<String> told = new ArrayList<>();
        private final int number;
        private int calls = 0;
        private boolean parted = false;

        Run(int number) {
            this.number = number;
            this.random = new Random(1000L + number);
        }

        void go() {
            boolean first = true;
            while (!parted && calls + CALLS_OF_A_STEP <= CALLS) {
                if (first && random.nextInt(8) > 0 || random.nextInt(40) == 0) {
                    writeBed();
                } else {
                    one(random.nextInt(100));
                }
                first = false;
                due("count(4)", real.count(4), plain.count(4));
                due("count(6)", real.count(6), plain.count(6));
            }
            while (!parted && calls < CALLS) {
                lastOnes();
            }
            if (!parted && calls != CALLS) {
                wrong++;
                System.out.println("run " + number + " has " + calls + " calls");
            }
        }

        /** One call each: the dearest ones too are asked to the last. */
        private void lastOnes() {
            int kind = random.nextInt(70);
            one(kind < 30 ? kind : kind + 30);
        }

        private void due(String call, long got, long want) {
            calls++;
            if (!parted) {
                told.add(call + " = " + got);
            }
            if (got != want && !parted) {
                parted = true;
                wrong++;
                System.out.println("run " + number + ": " + call + " answered " + got + ", due is " + want);
                System.out.println("  behind " + told);
            }
        }

        private int some(int least, int most) {
            // Now and then just outside.
            int r = random.nextInt(24);
            if (r == 0) {
                return least - 1;
            }
            if (r == 1) {
                return most + 1;
            }
            if (r == 2 && random.nextInt(4) == 0) {
                return random.nextInt();
            }
            return least + random.nextInt(most - least + 1);
        }

        private int row(int least) {
            int r = random.nextInt(30);
            if (r == 0) {
                return random.nextInt(12000);
            }
            if (r == 1) {
                return random.nextInt();
            }
            int row = 0;
            for (int i = 0; i < 4; i++) {
                row = 10 * row + least + random.nextInt(7 - least);
            }
            return row;
        }

        private void writeBed() {
            StringBuilder text = new StringBuilder("B").append((char) ('1' + random.nextInt(3)));
            int gripMost = 1 + random.nextInt(9);
            int slackMost = random.nextInt(10);
            for (int i = 0; i < 4; i++) {
                text.append((char) ('1' + random.nextInt(gripMost) + (random.nextBoolean() ? 9 - gripMost : 0)));
            }
            for (int i = 0; i < 4; i++) {
                text.append((char) ('0' + random.nextInt(slackMost + 1)));
            }
            int looks = random.nextInt(random.nextInt(4) == 0 ? 5 : 4);
            for (int i = 0; i < looks; i++) {
                int tenths = random.nextInt(3) == 0 ? 0 : random.nextInt(10);
                text.append('L').append((char) ('0' + random.nextInt(4))).append((char) ('0' + tenths));
            }
            if (random.nextInt(5) == 0) {
                text.setCharAt(random.nextInt(text.length()), (char) ("BL0123456789x".charAt(random.nextInt(13))));
            }
            if (random.nextInt(6) == 0) {
                text.setLength(random.nextInt(text.length() + 1));
            }
            due("wipe()", real.wipe(), plain.wipe());
            for (int i = 0; i < text.length(); i++) {
                int letter = text.charAt(i);
                due("write(" + letter + ")", real.write(letter), plain.write(letter));
            }
            due("fault()", real.fault(), plain.fault());
            due("bed()", real.bed(), plain.bed());
        }

        private void one(int kind) {
            if (kind < 40) {
                act(kind);
            } else if (kind < 60) {
                look(kind);
            } else if (kind < 80) {
                askRows(kind);
            } else {
                askOthers(kind);
            }
        }

        private void act(int kind) {
            int c = some(0, 3);
            if (kind < 20) {
                int d = some(0, 6);
                due("set(" + c + ", " + d + ")", real.set(c, d), plain.set(c, d));
            } else if (kind < 26) {
                int b = some(0, 3);
                due("bend(" + c + ", " + b + ")", real.bend(c, b), plain.bend(c, b));
            } else if (kind < 28) {
                due("wash()", real.wash(), plain.wash());
            } else if (kind < 30) {
                due("turn()", real.turn(), plain.turn());
            } else if (kind < 33) {
                int often = 1 + random.nextInt(3);
                for (int i = 0; i < often; i++) {
                    due("undo()", real.undo(), plain.undo());
                }
            } else if (kind < 35) {
                int s = some(0, 1);
                due("keep(" + s + ")", real.keep(s), plain.keep(s));
            } else if (kind < 37) {
                int s = some(0, 1);
                due("again(" + s + ")", real.again(s), plain.again(s));
            } else {
                long v = random.nextInt(3) == 0 ? random.nextInt(10) : random.nextLong();
                due("seed(" + v + ")", real.seed(v), plain.seed(v));
            }
        }

        private void look(int kind) {
            int c = some(0, 3);
            if (kind < 47) {
                int w = some(0, 5);
                due("corner(" + c + ", " + w + ")", real.corner(c, w), plain.corner(c, w));
            } else if (kind < 51) {
                int w = some(0, 1);
                due("edge(" + c + ", " + w + ")", real.edge(c, w), plain.edge(c, w));
            } else if (kind < 54) {
                int w = some(0, 8);
                due("count(" + w + ")", real.count(w), plain.count(w));
            } else if (kind < 58) {
                int r = row(0);
                int w = some(0, 2);
                due("would(" + r + ", " + w + ")", real.would(r, w), plain.would(r, w));
            } else {
                int n = some(1, 4);
                int row = 0;
                for (int i = 0; i < n && i < 4; i++) {
                    int corner = random.nextInt(random.nextInt(6) == 0 ? 10 : 4);
                    row = 100 * row + 10 * corner + random.nextInt(random.nextInt(6) == 0 ? 10 : 7);
                }
                row = random.nextInt(12) == 0 ? random.nextInt() : row;
                due("judge(" + n + ", " + row + ")", real.judge(n, row), plain.judge(n, row));
            }
        }

        private void askRows(int kind) {
            int m = some(1, 6);
            if (kind == 60) {
                due("rows(" + m + ")", real.rows(m), plain.rows(m));
            } else if (kind == 61) {
                due("rowOf(" + m + ")", real.rowOf(m), plain.rowOf(m));
            } else if (kind == 62) {
                due("deepest()", real.deepest(), plain.deepest());
            } else if (kind < 65) {
                due("fewest(" + m + ")", real.fewest(m), plain.fewest(m));
            } else if (kind < 68) {
                int i = random.nextInt(10) - 1;
                due("fewestAt(" + m + ", " + i + ")", real.fewestAt(m, i), plain.fewestAt(m, i));
            } else if (kind == 68) {
                due("byTwo(" + m + ")", real.byTwo(m), plain.byTwo(m));
            } else if (kind < 73) {
                int r = row(1);
                int w = some(0, 1);
                due("orders(" + r + ", " + w + ")", real.orders(r, w), plain.orders(r, w));
            } else if (kind < 77) {
                int r = random.nextBoolean() ? row(1) : likeNow();
                due("creases(" + r + ")", real.creases(r), plain.creases(r));
            } else if (kind == 77) {
                due("bending(" + m + ")", real.bending(m), plain.bending(m));
            } else {
                due("washes(" + m + ")", real.washes(m), plain.washes(m));
            }
        }

        /** A row of which the depths could have come: those that are off are drawn. */
        private int likeNow() {
            int row = 0;
            for (int i = 0; i < 4; i++) {
                int depth = plain.now.depth[i];
                row = 10 * row + (depth == 0 ? 1 + random.nextInt(6) : depth);
            }
            return row;
        }

        private void askOthers(int kind) {
            boolean upper = random.nextBoolean();
            int c = some(0, 3);
            if (kind < 84) {
                due("likely(" + c + ", " + upper + ")", real.likely(c, upper), plain.likely(c, upper));
            } else if (kind < 87) {
                due("tries(" + upper + ")", real.tries(upper), plain.tries(upper));
            } else if (kind < 92) {
                int n = some(0, 8);
                int row = 0;
                for (int i = 0; i < n && i < 8; i++) {
                    row = 10 * row + random.nextInt(random.nextInt(20) == 0 ? 10 : 4);
                }
                row = random.nextInt(15) == 0 ? random.nextInt() : row;
                due("drum(" + c + ", " + n + ", " + row + ")", real.drum(c, n, row), plain.drum(c, n, row));
            } else if (kind < 94) {
                int n = some(1, 5);
                int w = some(0, 2);
                due("cross(" + n + ", " + w + ")", real.cross(n, w), plain.cross(n, w));
            } else if (kind < 97) {
                int n = some(1, 12);
                int k = some(1, n < 1 || n > 12 ? 12 : n);
                due("drawer(" + n + ", " + k + ", " + upper + ")", real.drawer(n, k, upper),
                    plain.drawer(n, k, upper));
            } else {
                int m = some(1, 30);
                due("ward(" + m + ")", real.ward(m), plain.ward(m));
            }
        }
    }

    /** How a sheet lies; never changed once it is made. */
    private static final class Lie {
        final int[] depth;
        final int[] bend;
        final int[] slack;

        Lie(int[] depth, int[] bend, int[] slack) {
            this.depth = depth.clone();
            this.bend = bend.clone();
            this.slack = slack.clone();
        }

        Lie deep(int corner, int d) {
            int[] changed = depth.clone();
            changed[corner] = d;
            return new Lie(changed, bend, slack);
        }

        Lie deep(int[] all) {
            return new Lie(all, bend, slack);
        }

        Lie bent(int[] all) {
            return new Lie(depth, all, slack);
        }

        Lie washed() {
            int[] less = slack.clone();
            for (int i = 0; i < 4; i++) {
                less[i] = Math.max(0, less[i] - 1);
            }
            return new Lie(depth, bend, less);
        }
    }

    private static final class Plain {
        private static final Pattern BED = Pattern.compile("B[1-3][1-9]{4}[0-9]{4}(L[0-3][0-9]){0,3}");

        private StringBuilder text = new StringBuilder();
        private int stiff = 1;
        private int[] grip = {1, 1, 1, 1};
        private List<int[]> looks = new ArrayList<>();
        private Lie now = new Lie(new int[4], new int[4], new int[4]);
        private final Deque<Lie> past = new ArrayDeque<>();
        private final Lie[] kept = new Lie[2];
        private long seed = 0;

        int write(int letter) {
            if (letter < 0 || letter > 255) {
                return OUTSIDE;
            }
            if (text.length() == 24) {
                return FULL;
            }
            text.append(new String(new byte[] {(byte) letter}, StandardCharsets.ISO_8859_1));
            return text.length();
        }

        int wipe() {
            int was = text.length();
            text = new StringBuilder();
            return was;
        }

        int fault() {
            for (int i = 0; i < text.length(); i++) {
                Matcher ahead = BED.matcher(text.substring(0, i + 1));
                if (!ahead.matches() && !ahead.hitEnd()) {
                    return i;
                }
            }
            return BED.matcher(text).matches() ? NONE : text.length();
        }

        int bed() {
            if (fault() != NONE) {
                return STATE;
            }
            stiff = text.charAt(1) - 48;
            int[] slack = new int[4];
            for (int i = 0; i < 4; i++) {
                grip[i] = text.charAt(2 + i) - 48;
                slack[i] = text.charAt(6 + i) - 48;
            }
            looks.clear();
            for (String look : text.substring(10).split("L")) {
                if (!look.isEmpty()) {
                    looks.add(new int[] {look.charAt(0) - 48, look.charAt(1) - 48});
                }
            }
            now = new Lie(new int[4], new int[4], slack);
            past.clear();
            Arrays.fill(kept, null);
            return looks.size();
        }

        private int counts(Lie lie, int c) {
            return Math.max(0, lie.depth[c] - lie.bend[c]);
        }

        private int pullOfEdge(Lie lie, int e) {
            int f = e == 3 ? 0 : e + 1;
            if (lie.depth[e] == 0 || lie.depth[f] == 0) {
                return 0;
            }
            return stiff * Math.max(0, counts(lie, e) + counts(lie, f) - lie.slack[e]);
        }

        private int pullAt(Lie lie, int c) {
            return pullOfEdge(lie, c) + pullOfEdge(lie, c == 0 ? 3 : c - 1);
        }

        private boolean holds(Lie lie, int c) {
            return lie.depth[c] == 0 || pullAt(lie, c) <= grip[c] * lie.depth[c];
        }

        private boolean allHold(Lie lie) {
            return holds(lie, 0) && holds(lie, 1) && holds(lie, 2) && holds(lie, 3);
        }

        private int first(Lie lie) {
            int first = NONE;
            for (int c = 3; c >= 0; c--) {
                if (!holds(lie, c) && (first == NONE || over(lie, c) >= over(lie, first))) {
                    first = c;
                }
            }
            return first;
        }

        private int over(Lie lie, int c) {
            return pullAt(lie, c) - grip[c] * lie.depth[c];
        }

        private Lie slips(Lie lie) {
            while (!allHold(lie)) {
                lie = lie.deep(first(lie), 0);
            }
            return lie;
        }

        private int offBetween(Lie before, Lie behind) {
            int bits = 0;
            for (int c = 0; c < 4; c++) {
                if (before.depth[c] != 0 && behind.depth[c] == 0) {
                    bits |= 1 << c;
                }
            }
            return bits;
        }

        private int on(Lie lie) {
            int many = 0;
            for (int d : lie.depth) {
                many += d > 0 ? 1 : 0;
            }
            return many;
        }

        private static int figures(int[] four) {
            return Integer.parseInt("" + four[0] + four[1] + four[2] + four[3]);
        }

        /** The figures of a number told in so many, or null if it is not so. */
        private static int[] read(int number, int n, int least, int most) {
            if (number < 0) {
                return null;
            }
            String digits = number == 0 ? "" : "" + number;
            if (digits.length() > n) {
                return null;
            }
            digits = "0".repeat(n - digits.length()) + digits;
            int[] read = new int[n];
            for (int i = 0; i < n; i++) {
                read[i] = digits.charAt(i) - 48;
                if (read[i] < least || read[i] > most) {
                    return null;
                }
            }
            return read;
        }

        int corner(int c, int what) {
            if (c < 0 || c > 3) {
                return UNKNOWN;
            }
            if (what < 0 || what > 5) {
                return OUTSIDE;
            }
            return new int[] {now.depth[c], now.bend[c], grip[c], pullAt(now, c), holds(now, c) ? 1 : 0,
                counts(now, c)}[what];
        }

        int edge(int e, int what) {
            if (e < 0 || e > 3) {
                return UNKNOWN;
            }
            return what == 0 ? now.slack[e] : what == 1 ? pullOfEdge(now, e) : OUTSIDE;
        }

        int would(int row, int what) {
            int[] depths = read(row, 4, 0, 6);
            if (depths == null || what < 0 || what > 2) {
                return OUTSIDE;
            }
            Lie lie = now.deep(depths);
            if (what == 1) {
                return first(lie);
            }
            if (what == 2) {
                return figures(slips(lie).depth);
            }
            return (holds(lie, 0) ? 0 : 1) + (holds(lie, 1) ? 0 : 2) + (holds(lie, 2) ? 0 : 4)
                + (holds(lie, 3) ? 0 : 8);
        }

        private int act(Lie changed) {
            past.addLast(now);
            if (past.size() > 16) {
                past.removeFirst();
            }
            now = slips(changed);
            return offBetween(changed, now);
        }

        int set(int c, int d) {
            if (c < 0 || c > 3) {
                return UNKNOWN;
            }
            if (d < 0 || d > 6) {
                return OUTSIDE;
            }
            return now.depth[c] == d ? STATE : act(now.deep(c, d));
        }

        int bend(int c, int b) {
            if (c < 0 || c > 3) {
                return UNKNOWN;
            }
            if (b < 0 || b > 3) {
                return OUTSIDE;
            }
            if (now.bend[c] == b) {
                return STATE;
            }
            int[] bends = now.bend.clone();
            bends[c] = b;
            return act(now.bent(bends));
        }

        int wash() {
            return act(now.washed());
        }

        int turn() {
            if (on(now) > 0) {
                return STATE;
            }
            int[] s = now.slack;
            act(new Lie(now.depth, now.bend, new int[] {s[3], s[0], s[1], s[2]}));
            return now.slack[0];
        }

        int undo() {
            if (past.isEmpty()) {
                return STATE;
            }
            now = past.removeLast();
            return past.size();
        }

        int judge(int n, int row) {
            if (n < 1 || n > 4) {
                return OUTSIDE;
            }
            int[] told = read(row, 2 * n, 0, 9);
            if (told == null) {
                return OUTSIDE;
            }
            Lie lie = now;
            for (int i = 0; i < n; i++) {
                int c = told[2 * i];
                int d = told[2 * i + 1];
                if (c > 3 || d > 6 || lie.depth[c] == d) {
                    return i;
                }
                lie = lie.deep(c, d);
                if (!allHold(lie)) {
                    return i;
                }
            }
            return NONE;
        }

        private List<Integer> allRows(Lie lie, int m) {
            List<Integer> rows = new ArrayList<>();
            for (int a = m; a <= 6; a++) {
                for (int b = m; b <= 6; b++) {
                    for (int c = m; c <= 6; c++) {
                        for (int d = m; d <= 6; d++) {
                            int[] depths = {a, b, c, d};
                            if (allHold(lie.deep(depths))) {
                                rows.add(figures(depths));
                            }
                        }
                    }
                }
            }
            return rows;
        }

        private static boolean bad(int m) {
            return m < 1 || m > 6;
        }

        int rows(int m) {
            return bad(m) ? OUTSIDE : allRows(now, m).size();
        }

        int rowOf(int m) {
            if (bad(m)) {
                return OUTSIDE;
            }
            List<Integer> rows = allRows(now, m);
            return rows.isEmpty() ? NONE : rows.get(0);
        }

        int deepest() {
            int deepest = 0;
            for (int m = 1; m <= 6; m++) {
                deepest = allRows(now, m).isEmpty() ? deepest : m;
            }
            return deepest;
        }

        /** Behind every row of depths its slips, both as numbers to the base 7. */
        private int[] slipTable() {
            int[] table = new int[2401];
            for (int s = 0; s < 2401; s++) {
                table[s] = code(slips(now.deep(new int[] {s / 343, s / 49 % 7, s / 7 % 7, s % 7})).depth);
            }
            return table;
        }

        private static int code(int[] d) {
            return 343 * d[0] + 49 * d[1] + 7 * d[2] + d[3];
        }

        private static int with(int s, int c, int d) {
            int[] sevens = {343, 49, 7, 1};
            return s + (d - s / sevens[c] % 7) * sevens[c];
        }

        /** Of every row of depths how far it is from having m everywhere: grown from behind. */
        private int[] far(int m, int[] table, boolean two) {
            int[] far = new int[2401];
            for (int s = 0; s < 2401; s++) {
                far[s] = s / 343 >= m && s / 49 % 7 >= m && s / 7 % 7 >= m && s % 7 >= m && table[s] == s ? 0 : 99;
            }
            boolean grown = true;
            for (int step = 1; grown; step++) {
                grown = false;
                for (int s = 0; s < 2401; s++) {
                    if (far[s] == 99 && (two ? nearByTwo(s, step, far, table) : nearByOne(s, step, far, table))) {
                        far[s] = step;
                        grown = true;
                    }
                }
            }
            return far;
        }

        private static boolean nearByOne(int s, int step, int[] far, int[] table) {
            for (int c = 0; c < 4; c++) {
                for (int d = 0; d < 7; d++) {
                    if (far[table[with(s, c, d)]] == step - 1) {
                        return true;
                    }
                }
            }
            return false;
        }

        private static boolean nearByTwo(int s, int step, int[] far, int[] table) {
            for (int c = 0; c < 4; c++) {
                for (int e = c + 1; e < 4; e++) {
                    for (int d = 0; d < 49; d++) {
                        if (far[table[with(with(s, c, d / 7), e, d % 7)]] == step - 1) {
                            return true;
                        }
                    }
                }
            }
            return false;
        }

        private List<Integer> way(int m) {
            int[] table = slipTable();
            int[] far = far(m, table, false);
            int s = code(now.depth);
            if (far[s] == 99) {
                return null;
            }
            List<Integer> way = new ArrayList<>();
            while (far[s] > 0) {
                int step = 0;
                while (far[table[with(s, step / 7, step % 7)]] != far[s] - 1) {
                    step++;
                }
                way.add(10 * (step / 7) + step % 7);
                s = table[with(s, step / 7, step % 7)];
            }
            return way;
        }

        int fewest(int m) {
            if (bad(m)) {
                return OUTSIDE;
            }
            List<Integer> way = way(m);
            return way == null ? NONE : way.size();
        }

        int fewestAt(int m, int i) {
            if (bad(m)) {
                return OUTSIDE;
            }
            List<Integer> way = way(m);
            return way == null || i < 0 || i >= way.size() ? NONE : way.get(i);
        }

        int byTwo(int m) {
            if (bad(m)) {
                return OUTSIDE;
            }
            int far = far(m, slipTable(), true)[code(now.depth)];
            return far == 99 ? NONE : far;
        }

        private static List<int[]> allOrders() {
            List<int[]> orders = new ArrayList<>();
            for (int i = 0; i < 10000; i++) {
                int[] order = read(i, 4, 0, 3);
                if (order != null && Arrays.stream(order).distinct().count() == 4) {
                    orders.add(order);
                }
            }
            return orders;
        }

        private List<int[]> ordersTo(int[] row, int[] end) {
            List<int[]> orders = allOrders();
            orders.removeIf(order -> {
                Lie lie = now.deep(new int[4]);
                for (int c : order) {
                    lie = slips(lie.deep(c, row[c]));
                }
                return !Arrays.equals(lie.depth, end);
            });
            return orders;
        }

        int orders(int row, int what) {
            int[] depths = read(row, 4, 1, 6);
            if (depths == null || what < 0 || what > 1) {
                return OUTSIDE;
            }
            List<int[]> orders = ordersTo(depths, depths);
            return what == 0 ? orders.size() : orders.isEmpty() ? NONE : figures(orders.get(0));
        }

        int creases(int row) {
            int[] depths = read(row, 4, 1, 6);
            return depths == null ? OUTSIDE : ordersTo(depths, now.depth).size();
        }

        int bending(int m) {
            if (bad(m)) {
                return OUTSIDE;
            }
            for (int sum = 0; sum <= 12; sum++) {
                for (int i = 0; i <= 3333; i++) {
                    int[] bends = read(i, 4, 0, 3);
                    if (bends != null && Arrays.stream(bends).sum() == sum && !allRows(now.bent(bends), m).isEmpty()) {
                        return i;
                    }
                }
            }
            return NONE;
        }

        int washes(int m) {
            if (bad(m)) {
                return OUTSIDE;
            }
            Lie lie = now;
            for (int w = 0; w <= 9; w++) {
                if (allRows(lie, m).isEmpty()) {
                    return w;
                }
                lie = lie.washed();
            }
            return NONE;
        }

        private static int told(BigInteger above, BigInteger below, boolean upper) {
            BigInteger both = above.gcd(below);
            return (upper ? above : below).divide(both).intValueExact();
        }

        private BigInteger[] weights() {
            BigInteger[] weights = new BigInteger[4];
            for (int c = 0; c < 4; c++) {
                weights[c] = BigInteger.ONE;
                for (int[] look : looks) {
                    int thirtieths = look[0] == c ? 3 * look[1] : 10 - look[1];
                    weights[c] = weights[c].multiply(BigInteger.valueOf(thirtieths));
                }
            }
            return weights;
        }

        private static BigInteger sum(BigInteger[] four) {
            return four[0].add(four[1]).add(four[2]).add(four[3]);
        }

        int likely(int c, boolean upper) {
            if (c < 0 || c > 3) {
                return UNKNOWN;
            }
            BigInteger all = sum(weights());
            return all.signum() == 0 ? STATE : told(weights()[c], all, upper);
        }

        int tries(boolean upper) {
            BigInteger[] weights = weights();
            if (sum(weights).signum() == 0) {
                return STATE;
            }
            BigInteger best = null;
            for (int[] order : allOrders()) {
                BigInteger mean = BigInteger.ZERO;
                for (int i = 0; i < 4; i++) {
                    mean = mean.add(weights[order[i]].multiply(BigInteger.valueOf(i + 1)));
                }
                best = best == null ? mean : best.min(mean);
            }
            return told(best, sum(weights), upper);
        }

        private static void tighten(int[] screws, int s) {
            screws[s] += 4;
            for (int i = 0; i < 4; i++) {
                if (Math.abs(i - s) % 2 == 1) {
                    screws[i] = Math.max(0, screws[i] - 1);
                }
            }
        }

        int drum(int screw, int n, int row) {
            if (screw < 0 || screw > 3) {
                return UNKNOWN;
            }
            int[] told = n < 0 || n > 8 ? null : read(row, n, 0, 3);
            if (told == null) {
                return OUTSIDE;
            }
            int[] screws = new int[4];
            for (int s : told) {
                tighten(screws, s);
            }
            return screws[screw];
        }

        int cross(int n, int what) {
            if (n < 1 || n > 5 || what < 0 || what > 2) {
                return OUTSIDE;
            }
            List<int[]> orders = allOrders();
            int[] gaps = new int[24];
            for (int i = 0; i < 24; i++) {
                int[] screws = new int[4];
                for (int round = 0; round < n; round++) {
                    for (int s : orders.get(i)) {
                        tighten(screws, s);
                    }
                }
                gaps[i] = Arrays.stream(screws).max().getAsInt() - Arrays.stream(screws).min().getAsInt();
            }
            int least = Arrays.stream(gaps).min().getAsInt();
            if (what == 2) {
                return least;
            }
            if (what == 0) {
                return (int) Arrays.stream(gaps).filter(g -> g == least).count();
            }
            int i = 0;
            while (gaps[i] != least) {
                i++;
            }
            return figures(orders.get(i));
        }

        /** By one draw behind the other: 1 + (n - k) / n of what is so with one less. */
        int drawer(int n, int k, boolean upper) {
            if (n < 1 || n > 12 || k < 1 || k > n) {
                return OUTSIDE;
            }
            BigInteger above = BigInteger.ONE;
            BigInteger below = BigInteger.ONE;
            for (int i = k + 1; i <= n; i++) {
                above = above.multiply(BigInteger.valueOf(i - k)).add(below.multiply(BigInteger.valueOf(i)));
                below = below.multiply(BigInteger.valueOf(i));
            }
            return told(above, below, upper);
        }

        long seed(long v) {
            long was = seed;
            seed = v;
            return was;
        }

        int ward(int m) {
            if (m < 1 || m > 30) {
                return OUTSIDE;
            }
            int whole = 0;
            BigInteger turn = BigInteger.ONE.shiftLeft(64);
            for (int i = 0; i < m; i++) {
                Lie lie = now.deep(new int[4]);
                for (int c = 0; c < 4; c++) {
                    BigInteger x = BigInteger.valueOf(seed).multiply(new BigInteger("6364136223846793005"))
                        .add(new BigInteger("1442695040888963407")).mod(turn);
                    seed = x.longValue();
                    lie = slips(lie.deep(c, x.shiftRight(33).mod(BigInteger.valueOf(6)).intValue() + 1));
                }
                whole += on(lie) == 4 ? 1 : 0;
            }
            return whole;
        }

        int keep(int slot) {
            if (slot < 0 || slot > 1) {
                return UNKNOWN;
            }
            kept[slot] = now;
            return on(now);
        }

        int again(int slot) {
            if (slot < 0 || slot > 1) {
                return UNKNOWN;
            }
            if (kept[slot] == null) {
                return STATE;
            }
            now = kept[slot];
            past.clear();
            return on(now);
        }

        int count(int what) {
            if (what < 0 || what > 8) {
                return OUTSIDE;
            }
            int bits = 0;
            int pull = 0;
            for (int i = 0; i < 4; i++) {
                bits += now.depth[i] > 0 ? 1 << i : 0;
                pull += pullOfEdge(now, i);
            }
            return new int[] {text.length(), stiff, looks.size(), bits, figures(now.depth), figures(now.bend),
                figures(now.slack), past.size(), pull}[what];
        }
    }
}
