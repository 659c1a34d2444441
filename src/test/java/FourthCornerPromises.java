import java.util.ArrayList;
import java.util.List;

/** For each promise of the document answers that are due, nearly all worked out by hand: ordinary, edges, refusals. */
public final class FourthCornerPromises {
    private static final int UNKNOWN = -1, OUTSIDE = -2, STATE = -3, FULL = -4, NONE = -9;
    /** Each corner must be as deep as both beside it in the mean: only rows of one and the same depth hold. */
    private static final String EVEN = "B144440000";
    /** Corner 0 must be as deep as 1 and 3 together, the others nearly always hold. */
    private static final String HEAVY = "B139990000";
    /** No two corners beside each other hold. */
    private static final String WEAK = "B111110000";

    private static int wrong = 0;
    private static int promise = 0;

    private static void due(String call, long got, long want) {
        if (got != want) {
            wrong++;
            System.out.println("promise " + promise + ": " + call + " answered " + got + ", due is " + want);
        }
    }

    private static FourthCorner made(String text) {
        FourthCorner x = new FourthCorner();
        written(x, text);
        due("bed() of " + text, x.bed(), (text.length() - 10) / 3);
        return x;
    }

    private static void written(FourthCorner x, String text) {
        x.wipe();
        for (int i = 0; i < text.length(); i++) {
            due("write of " + text, x.write(text.charAt(i)), i + 1);
        }
    }

    private static FourthCorner laid(String text, int... depths) {
        FourthCorner x = made(text);
        for (int corner = 0; corner < depths.length; corner++) {
            if (depths[corner] > 0) {
                due("set to lay " + text, x.set(corner, depths[corner]), 0);
            }
        }
        return x;
    }

    private static List<Integer> seen(FourthCorner x) {
        List<Integer> seen = new ArrayList<>();
        for (int what = 0; what < 9; what++) {
            seen.add(x.count(what));
        }
        for (int corner = 0; corner < 4; corner++) {
            seen.add(x.corner(corner, 2));
            seen.add(x.likely(corner, true));
        }
        long seed = x.seed(0L);
        x.seed(seed);
        seen.add((int) seed);
        return seen;
    }

    private static void same(String when, FourthCorner x, List<Integer> before) {
        List<Integer> now = seen(x);
        if (!now.equals(before)) {
            wrong++;
            System.out.println("promise " + promise + ": " + when + " changed " + before + " to " + now);
        }
    }

    public static void main(String[] args) {
        Runnable[] promises = {
            FourthCornerPromises::newObject, FourthCornerPromises::write, FourthCornerPromises::wipe,
            FourthCornerPromises::fault, FourthCornerPromises::bed, FourthCornerPromises::corner,
            FourthCornerPromises::edge, FourthCornerPromises::would, FourthCornerPromises::set,
            FourthCornerPromises::bend, FourthCornerPromises::wash, FourthCornerPromises::turn,
            FourthCornerPromises::undo, FourthCornerPromises::judge, FourthCornerPromises::rows,
            FourthCornerPromises::rowOf, FourthCornerPromises::deepest, FourthCornerPromises::fewest,
            FourthCornerPromises::fewestAt, FourthCornerPromises::byTwo, FourthCornerPromises::orders,
            FourthCornerPromises::creases, FourthCornerPromises::bending, FourthCornerPromises::washes,
            FourthCornerPromises::likely, FourthCornerPromises::tries, FourthCornerPromises::drum,
            FourthCornerPromises::cross, FourthCornerPromises::drawer, FourthCornerPromises::seed,
            FourthCornerPromises::ward, FourthCornerPromises::keep, FourthCornerPromises::again,
            FourthCornerPromises::count};
        for (int i = 0; i < promises.length; i++) {
            promise = i + 1;
            promises[i].run();
        }
        System.out.println(wrong == 0 ? "all promises are kept" : wrong + " answers are not as due");
        if (wrong != 0) {
            System.exit(1);
        }
    }

    private static void newObject() {
        FourthCorner x = new FourthCorner();
        for (int what = 0; what < 9; what++) {
            due("count(" + what + ")", x.count(what), what == 1 ? 1 : 0);
        }
        for (int corner = 0; corner < 4; corner++) {
            for (int what = 0; what < 6; what++) {
                due("corner(" + corner + ", " + what + ")", x.corner(corner, what), what == 2 || what == 4 ? 1 : 0);
            }
            due("edge(" + corner + ", 0)", x.edge(corner, 0), 0);
            due("likely below", x.likely(corner, false), 4);
        }
        due("fault()", x.fault(), 0);
        due("bed()", x.bed(), STATE);
        due("undo()", x.undo(), STATE);
        due("again(0)", x.again(0), STATE);
        due("again(1)", x.again(1), STATE);
        due("seed(0)", x.seed(0), 0);
        due("UNKNOWN", FourthCorner.UNKNOWN, UNKNOWN);
        due("OUTSIDE", FourthCorner.OUTSIDE, OUTSIDE);
        due("STATE", FourthCorner.STATE, STATE);
        due("FULL", FourthCorner.FULL, FULL);
        due("NONE", FourthCorner.NONE, NONE);
    }

    private static void write() {
        FourthCorner x = new FourthCorner();
        due("write(0)", x.write(0), 1);
        due("write(255)", x.write(255), 2);
        due("write(-1)", x.write(-1), OUTSIDE);
        due("write(256)", x.write(256), OUTSIDE);
        due("count(0)", x.count(0), 2);
        for (int i = 3; i <= 24; i++) {
            due("write(66)", x.write(66), i);
        }
        due("write(66)", x.write(66), FULL);
        due("write(256) to a full text", x.write(256), OUTSIDE);
        due("count(0)", x.count(0), 24);
    }

    private static void wipe() {
        FourthCorner x = laid(EVEN + "L05", 2, 2, 0, 0);
        due("wipe()", x.wipe(), 13);
        due("wipe()", x.wipe(), 0);
        due("count(0)", x.count(0), 0);
        due("count(4)", x.count(4), 2200);
        due("count(2)", x.count(2), 1);
        due("corner(0, 2)", x.corner(0, 2), 4);
        due("write(66)", x.write(66), 1);
    }

    private static void fault() {
        String least = "B111110000L00L00L00";
        String most = "B399999999L39L39L39";
        FourthCorner x = new FourthCorner();
        for (int place = 0; place <= 19; place++) {
            written(x, most.substring(0, place));
            boolean ends = place == 10 || place == 13 || place == 16 || place == 19;
            due("fault() of " + most.substring(0, place), x.fault(), ends ? NONE : place);
        }
        for (int place = 0; place < 19; place++) {
            String less = least.substring(0, place) + (char) (least.charAt(place) - 1) + least.substring(place + 1);
            String more = most.substring(0, place) + (char) (most.charAt(place) + 1);
            written(x, less);
            due("fault() of " + less, x.fault(), place);
            written(x, more);
            due("fault() of " + more, x.fault(), place);
        }
        written(x, "B1111x0000L0y");
        due("fault() of two", x.fault(), 5);
        written(x, least + "L0000");
        due("fault() of four LOOKS", x.fault(), 19);
        written(x, "b");
        due("fault() of a small letter", x.fault(), 0);
    }

    private static void bed() {
        FourthCorner x = laid("B212345678L05L19", 0, 0, 1, 0);
        due("count(1)", x.count(1), 2);
        due("count(6)", x.count(6), 5678);
        for (int i = 0; i < 4; i++) {
            due("corner(" + i + ", 2)", x.corner(i, 2), i + 1);
            due("edge(" + i + ", 0)", x.edge(i, 0), i + 5);
        }
        x.bend(1, 2);
        x.keep(0);
        x.keep(1);
        x.seed(77);
        written(x, "B39");
        List<Integer> before = seen(x);
        due("bed()", x.bed(), STATE);
        same("a refused bed()", x, before);
        due("again(1)", x.again(1), 1);
        due("wash()", x.wash(), 0);
        written(x, "B399999999");
        due("bed()", x.bed(), 0);
        due("count(0)", x.count(0), 10);
        due("count(2)", x.count(2), 0);
        due("count(4)", x.count(4), 0);
        due("count(5)", x.count(5), 0);
        due("count(6)", x.count(6), 9999);
        due("count(7)", x.count(7), 0);
        due("undo()", x.undo(), STATE);
        due("again(0)", x.again(0), STATE);
        due("again(1)", x.again(1), STATE);
        due("seed(0)", x.seed(0), 77);
    }

    private static void corner() {
        FourthCorner x = laid("B297991003", 3, 2, 0, 1);
        due("bend(0, 1)", x.bend(0, 1), 0);
        // Counting are 2, 2, 0, 1: edge 0 pulls 2 (4 - 1), edge 3 pulls 2 (3 - 3).
        int[] zero = {3, 1, 9, 6, 1, 2};
        int[] one = {2, 0, 7, 6, 1, 2};
        int[] two = {0, 0, 9, 0, 1, 0};
        int[] three = {1, 0, 9, 0, 1, 1};
        for (int what = 0; what < 6; what++) {
            due("corner(0, " + what + ")", x.corner(0, what), zero[what]);
            due("corner(1, " + what + ")", x.corner(1, what), one[what]);
            due("corner(2, " + what + ")", x.corner(2, what), two[what]);
            due("corner(3, " + what + ")", x.corner(3, what), three[what]);
        }
        due("bend(3, 3)", x.bend(3, 3), 0);
        due("corner(3, 5)", x.corner(3, 5), 0);
        due("corner(3, 0)", x.corner(3, 0), 1);
        due("corner(4, 0)", x.corner(4, 0), UNKNOWN);
        due("corner(-1, 0)", x.corner(-1, 0), UNKNOWN);
        due("corner(4, 6)", x.corner(4, 6), UNKNOWN);
        due("corner(0, 6)", x.corner(0, 6), OUTSIDE);
        due("corner(0, -1)", x.corner(0, -1), OUTSIDE);
    }

    private static void edge() {
        FourthCorner x = laid("B299990130", 2, 2, 3, 3);
        // 2 (2 + 2 - 0), 2 (2 + 3 - 1), 2 (3 + 3 - 3), 2 (3 + 2 - 0)
        int[] pulls = {8, 8, 6, 10};
        int[] slacks = {0, 1, 3, 0};
        for (int i = 0; i < 4; i++) {
            due("edge(" + i + ", 0)", x.edge(i, 0), slacks[i]);
            due("edge(" + i + ", 1)", x.edge(i, 1), pulls[i]);
        }
        x.set(2, 0);
        due("edge(0, 1)", x.edge(0, 1), 8);
        due("edge(1, 1), one off", x.edge(1, 1), 0);
        due("edge(2, 1), one off", x.edge(2, 1), 0);
        due("edge(4, 0)", x.edge(4, 0), UNKNOWN);
        due("edge(-1, 5)", x.edge(-1, 5), UNKNOWN);
        due("edge(0, 2)", x.edge(0, 2), OUTSIDE);
        due("edge(0, -1)", x.edge(0, -1), OUTSIDE);
        FourthCorner loose = laid("B199999000", 4, 4, 0, 0);
        due("edge(0, 1) within its slack", loose.edge(0, 1), 0);
    }

    private static void would() {
        FourthCorner x = laid(WEAK, 1, 0, 1, 0);
        List<Integer> before = seen(x);
        due("would(1111, 0)", x.would(1111, 0), 15);
        due("would(1111, 1)", x.would(1111, 1), 0);
        due("would(1111, 2)", x.would(1111, 2), 101);
        // Pulls are 8, 8, 12, 12: more by 7, 6, 9, 8.
        due("would(1234, 0)", x.would(1234, 0), 15);
        due("would(1234, 1)", x.would(1234, 1), 2);
        due("would(1234, 2)", x.would(1234, 2), 204);
        due("would(6100, 0)", x.would(6100, 0), 3);
        due("would(6100, 1)", x.would(6100, 1), 1);
        due("would(6100, 2)", x.would(6100, 2), 6000);
        due("would(6060, 0)", x.would(6060, 0), 0);
        due("would(6060, 1)", x.would(6060, 1), NONE);
        due("would(6060, 2)", x.would(6060, 2), 6060);
        due("would(0, 1)", x.would(0, 1), NONE);
        due("would(7000, 0)", x.would(7000, 0), OUTSIDE);
        due("would(7, 0)", x.would(7, 0), OUTSIDE);
        due("would(10000, 0)", x.would(10000, 0), OUTSIDE);
        due("would(-1, 0)", x.would(-1, 0), OUTSIDE);
        due("would(0, 3)", x.would(0, 3), OUTSIDE);
        due("would(0, -1)", x.would(0, -1), OUTSIDE);
        same("would", x, before);
    }

    private static void set() {
        FourthCorner x = laid("B119110000", 1, 0, 1, 0);
        // Corner 1 bears it; 0 and 2 have 2 of 1 each, one behind the other.
        due("set(1, 1)", x.set(1, 1), 5);
        due("count(4)", x.count(4), 100);
        due("count(7)", x.count(7), 3);
        FourthCorner weak = laid(WEAK, 3, 0, 0, 0);
        due("set(1, 2) slips itself", weak.set(1, 2), 2);
        due("count(4)", weak.count(4), 3000);
        due("count(7)", weak.count(7), 2);
        due("set(1, 3) of like ones", weak.set(1, 3), 1);
        due("set(2, 6)", weak.set(2, 6), 2);
        due("set(2, 0)", weak.set(2, 0), 0);
        List<Integer> before = seen(weak);
        due("set(4, 7)", weak.set(4, 7), UNKNOWN);
        due("set(-1, 0)", weak.set(-1, 0), UNKNOWN);
        due("set(0, 7)", weak.set(0, 7), OUTSIDE);
        due("set(0, -1)", weak.set(0, -1), OUTSIDE);
        due("set(0, 0)", weak.set(0, 0), STATE);
        same("a refused set", weak, before);
    }

    private static void bend() {
        FourthCorner x = made(WEAK);
        due("bend(0, 3)", x.bend(0, 3), 0);
        due("set(0, 3)", x.set(0, 3), 0);
        due("set(1, 3)", x.set(1, 3), 0);
        List<Integer> before = seen(x);
        due("bend(4, 4)", x.bend(4, 4), UNKNOWN);
        due("bend(-1, 0)", x.bend(-1, 0), UNKNOWN);
        due("bend(0, 4)", x.bend(0, 4), OUTSIDE);
        due("bend(0, -1)", x.bend(0, -1), OUTSIDE);
        due("bend(0, 3)", x.bend(0, 3), STATE);
        same("a refused bend", x, before);
        due("bend(0, 2)", x.bend(0, 2), 1);
        due("count(4)", x.count(4), 300);
        due("count(5)", x.count(5), 2000);
        due("count(7)", x.count(7), 4);
    }

    private static void wash() {
        FourthCorner x = laid("B111113100", 3, 3, 0, 0);
        due("wash()", x.wash(), 1);
        due("count(6)", x.count(6), 2000);
        due("count(4)", x.count(4), 300);
        due("wash()", x.wash(), 0);
        due("wash()", x.wash(), 0);
        due("wash() without slack", x.wash(), 0);
        due("count(6)", x.count(6), 0);
        due("count(7)", x.count(7), 6);
    }

    private static void turn() {
        FourthCorner x = made("B111111234");
        due("bend(2, 1)", x.bend(2, 1), 0);
        due("turn()", x.turn(), 4);
        due("count(6)", x.count(6), 4123);
        due("count(5)", x.count(5), 10);
        due("turn()", x.turn(), 3);
        due("count(6)", x.count(6), 3412);
        due("count(7)", x.count(7), 3);
        x.set(3, 1);
        List<Integer> before = seen(x);
        due("turn() with a corner on", x.turn(), STATE);
        same("a refused turn", x, before);
        due("undo()", x.undo(), 3);
        due("undo()", x.undo(), 2);
        due("count(6)", x.count(6), 4123);
    }

    private static void undo() {
        FourthCorner x = laid("B111113100", 3, 3, 0, 0);
        x.wash();
        due("count(4)", x.count(4), 300);
        due("undo()", x.undo(), 2);
        due("count(4)", x.count(4), 3300);
        due("count(6)", x.count(6), 3100);
        x.bend(0, 2);
        due("undo()", x.undo(), 2);
        due("count(5)", x.count(5), 0);
        due("undo()", x.undo(), 1);
        due("undo()", x.undo(), 0);
        due("undo()", x.undo(), STATE);
        FourthCorner many = made(EVEN);
        for (int i = 1; i <= 21; i++) {
            due("set", many.set(0, 1 + i % 6), 0);
            due("count(7)", many.count(7), Math.min(i, 16));
        }
        for (int left = 15; left >= 0; left--) {
            due("undo()", many.undo(), left);
            due("depth behind undo", many.corner(0, 0), 1 + (left + 5) % 6);
        }
        due("undo()", many.undo(), STATE);
        due("depth of the first acts", many.corner(0, 0), 6);
        due("wash()", many.wash(), 0);
        due("undo()", many.undo(), 0);
    }

    private static void judge() {
        FourthCorner x = made("B119110000");
        List<Integer> before = seen(x);
        due("judge(3, 12111)", x.judge(3, 12111), 2);
        due("judge(2, 121)", x.judge(2, 121), NONE);
        due("judge(2, 111)", x.judge(2, 111), 1);
        due("judge(2, 101)", x.judge(2, 101), 1);
        due("judge(2, 102)", x.judge(2, 102), NONE);
        due("judge(1, 40)", x.judge(1, 40), 0);
        due("judge(1, 7)", x.judge(1, 7), 0);
        due("judge(1, 0)", x.judge(1, 0), 0);
        due("judge(1, 36)", x.judge(1, 36), NONE);
        due("judge(4, 1210031)", x.judge(4, 1210031), 3);
        due("judge(4, 1210020)", x.judge(4, 1210020), NONE);
        due("judge(4, 1210041)", x.judge(4, 1210041), 3);
        due("judge(4, 99999999)", x.judge(4, 99999999), 0);
        due("judge(4, 100000000)", x.judge(4, 100000000), OUTSIDE);
        due("judge(1, 100)", x.judge(1, 100), OUTSIDE);
        due("judge(1, -1)", x.judge(1, -1), OUTSIDE);
        due("judge(0, 0)", x.judge(0, 0), OUTSIDE);
        due("judge(5, 0)", x.judge(5, 0), OUTSIDE);
        same("judge", x, before);
        x.set(0, 1);
        due("judge(1, 11) from now on", x.judge(1, 11), 0);
        due("judge(1, 1) as it is", x.judge(1, 1), 0);
    }

    private static void outsideOfOneToSix(String call, int below, int above, int far) {
        due(call + "(0)", below, OUTSIDE);
        due(call + "(7)", above, OUTSIDE);
        due(call + "(-2147483648)", far, OUTSIDE);
    }

    private static void rows() {
        FourthCorner even = laid(EVEN, 1, 0, 0, 0);
        for (int m = 1; m <= 6; m++) {
            due("rows(" + m + ")", even.rows(m), 7 - m);
        }
        due("count(4)", even.count(4), 1000);
        FourthCorner heavy = made(HEAVY);
        due("rows(2)", heavy.rows(2), 50);
        due("rows(3)", heavy.rows(3), 4);
        due("rows(4)", heavy.rows(4), 0);
        heavy.bend(0, 1);
        due("rows(4) bent", heavy.rows(4), 3);
        due("rows(1)", made("B133330000").rows(1), 0);
        outsideOfOneToSix("rows", even.rows(0), even.rows(7), even.rows(Integer.MIN_VALUE));
    }

    private static void rowOf() {
        FourthCorner heavy = laid(HEAVY, 0, 0, 2, 0);
        due("rowOf(1)", heavy.rowOf(1), 2111);
        due("rowOf(2)", heavy.rowOf(2), 4222);
        due("rowOf(3)", heavy.rowOf(3), 6333);
        due("rowOf(4)", heavy.rowOf(4), NONE);
        due("count(4)", heavy.count(4), 20);
        due("rowOf(5)", made(EVEN).rowOf(5), 5555);
        outsideOfOneToSix("rowOf", heavy.rowOf(0), heavy.rowOf(7), heavy.rowOf(Integer.MIN_VALUE));
    }

    private static void deepest() {
        FourthCorner heavy = laid(HEAVY, 0, 0, 2, 0);
        due("deepest()", heavy.deepest(), 3);
        due("count(4)", heavy.count(4), 20);
        heavy.bend(0, 1);
        due("deepest() bent", heavy.deepest(), 4);
        due("deepest()", made(EVEN).deepest(), 6);
        due("deepest()", made("B133330000").deepest(), 0);
    }

    private static void fewest() {
        FourthCorner heavy = made(HEAVY);
        due("fewest(3)", heavy.fewest(3), 4);
        due("fewest(4)", heavy.fewest(4), NONE);
        heavy.set(0, 3);
        due("fewest(3)", heavy.fewest(3), 4);
        heavy.set(0, 6);
        due("fewest(3)", heavy.fewest(3), 3);
        FourthCorner even = laid(EVEN, 1, 1, 1, 1);
        due("fewest(1)", even.fewest(1), 0);
        due("fewest(2)", even.fewest(2), 4);
        due("count(4)", even.count(4), 1111);
        due("count(7)", even.count(7), 4);
        outsideOfOneToSix("fewest", even.fewest(0), even.fewest(7), even.fewest(Integer.MIN_VALUE));
    }

    private static void fewestAt() {
        FourthCorner heavy = made(HEAVY);
        int[] sets = {6, 13, 23, 33};
        for (int i = 0; i < 4; i++) {
            due("fewestAt(3, " + i + ")", heavy.fewestAt(3, i), sets[i]);
        }
        due("fewestAt(3, 4)", heavy.fewestAt(3, 4), NONE);
        due("fewestAt(3, -1)", heavy.fewestAt(3, -1), NONE);
        due("fewestAt(4, 0)", heavy.fewestAt(4, 0), NONE);
        heavy.set(0, 6);
        due("fewestAt(3, 0)", heavy.fewestAt(3, 0), 13);
        due("fewestAt(3, 2)", heavy.fewestAt(3, 2), 33);
        due("fewestAt(3, 3)", heavy.fewestAt(3, 3), NONE);
        // 2 at corner 0 lets 1 and 3 slip, which must be set anyway.
        FourthCorner even = laid(EVEN, 1, 1, 1, 1);
        for (int i = 0; i < 4; i++) {
            due("fewestAt(2, " + i + ")", even.fewestAt(2, i), 10 * i + 2);
        }
        due("fewestAt(1, 0)", even.fewestAt(1, 0), NONE);
        // A corner must come off first; found by trying out all rows of SETS.
        way(laid("B284383130", 4, 2, 0, 6), 1, 0, 31, 1, 22);
        way(laid("B292891200", 2, 0, 4, 4), 1, 0, 32, 1, 21, 11);
        outsideOfOneToSix("fewestAt", even.fewestAt(0, -1), even.fewestAt(7, 0), even.fewestAt(Integer.MIN_VALUE, 0));
    }

    private static void way(FourthCorner x, int m, int... sets) {
        due("fewest(" + m + ")", x.fewest(m), sets.length);
        for (int i = 0; i <= sets.length; i++) {
            due("fewestAt(" + m + ", " + i + ")", x.fewestAt(m, i), i < sets.length ? sets[i] : NONE);
        }
    }

    private static void byTwo() {
        FourthCorner heavy = made(HEAVY);
        due("byTwo(3)", heavy.byTwo(3), 2);
        due("byTwo(4)", heavy.byTwo(4), NONE);
        FourthCorner even = laid(EVEN, 1, 1, 1, 1);
        due("byTwo(1)", even.byTwo(1), 0);
        due("byTwo(2)", even.byTwo(2), 2);
        due("count(4)", even.count(4), 1111);
        due("byTwo(3), one as it is", laid(HEAVY, 6, 3, 3, 0).byTwo(3), 1);
        due("byTwo(3), three missing", laid(HEAVY, 6, 0, 0, 0).byTwo(3), 2);
        outsideOfOneToSix("byTwo", even.byTwo(0), even.byTwo(7), even.byTwo(Integer.MIN_VALUE));
    }

    private static void orders() {
        FourthCorner heavy = laid(HEAVY, 0, 1, 0, 1);
        due("orders(6333, 0)", heavy.orders(6333, 0), 24);
        due("orders(6333, 1)", heavy.orders(6333, 1), 123);
        due("orders(5333, 0)", heavy.orders(5333, 0), 0);
        due("orders(5333, 1)", heavy.orders(5333, 1), NONE);
        due("orders(333, 0)", heavy.orders(333, 0), OUTSIDE);
        due("orders(1117, 0)", heavy.orders(1117, 0), OUTSIDE);
        due("orders(11111, 0)", heavy.orders(11111, 0), OUTSIDE);
        due("orders(-1111, 0)", heavy.orders(-1111, 0), OUTSIDE);
        due("orders(1111, 2)", heavy.orders(1111, 2), OUTSIDE);
        due("orders(1111, -1)", heavy.orders(1111, -1), OUTSIDE);
        due("count(4)", heavy.count(4), 101);
    }

    private static void creases() {
        due("creases(1111) to 1010", laid(WEAK, 1, 0, 1, 0).creases(1111), 6);
        due("creases(1111) to 0101", laid(WEAK, 0, 1, 0, 1).creases(1111), 14);
        FourthCorner last = laid(WEAK, 0, 0, 0, 1);
        due("creases(1111) to 0001", last.creases(1111), 4);
        due("creases(1112)", last.creases(1112), 0);
        due("creases(111)", last.creases(111), OUTSIDE);
        due("creases(1711)", last.creases(1711), OUTSIDE);
        due("creases(21111)", last.creases(21111), OUTSIDE);
        due("creases(-1)", last.creases(-1), OUTSIDE);
        due("count(4)", last.count(4), 1);
        due("creases(1111) to 1000", laid(WEAK, 1, 0, 0, 0).creases(1111), 0);
        due("creases(6333), all hold", laid(HEAVY, 6, 3, 3, 3).creases(6333), 24);
    }

    private static void bending() {
        FourthCorner heavy = laid(HEAVY, 1, 0, 0, 0);
        due("bending(3)", heavy.bending(3), 0);
        due("bending(4)", heavy.bending(4), 1000);
        due("bending(5)", heavy.bending(5), 2000);
        due("bending(6)", heavy.bending(6), 3000);
        heavy.bend(0, 3);
        heavy.bend(1, 2);
        due("bending(4), whatever they are", heavy.bending(4), 1000);
        due("count(5)", heavy.count(5), 3200);
        due("bending(4), of like ones", made("B139390000").bending(4), 2);
        due("bending(6), none", made("B311110000").bending(6), NONE);
        outsideOfOneToSix("bending", heavy.bending(0), heavy.bending(7), heavy.bending(Integer.MIN_VALUE));
    }

    private static void washes() {
        FourthCorner x = laid("B139995005", 1, 0, 0, 0);
        due("washes(4)", x.washes(4), 5);
        due("washes(3)", x.washes(3), NONE);
        due("count(6)", x.count(6), 5005);
        x.wash();
        due("washes(4) washed", x.washes(4), 4);
        due("washes(4)", made("B139999009").washes(4), 9);
        due("washes(4)", made(HEAVY).washes(4), 0);
        outsideOfOneToSix("washes", x.washes(0), x.washes(7), x.washes(Integer.MIN_VALUE));
    }

    private static void fractionOf(String call, int above, int below, int wantAbove, int wantBelow) {
        due(call + " above", above, wantAbove);
        due(call + " below", below, wantBelow);
    }

    private static void likely() {
        FourthCorner half = made(EVEN + "L05");
        fractionOf("likely(0)", half.likely(0, true), half.likely(0, false), 1, 2);
        fractionOf("likely(1)", half.likely(1, true), half.likely(1, false), 1, 6);
        FourthCorner never = made(EVEN + "L20");
        fractionOf("likely(2)", never.likely(2, true), never.likely(2, false), 0, 1);
        fractionOf("likely(3)", never.likely(3, true), never.likely(3, false), 1, 3);
        FourthCorner three = made(EVEN + "L09L19L29");
        fractionOf("likely(0)", three.likely(0, true), three.likely(0, false), 27, 82);
        fractionOf("likely(3)", three.likely(3, true), three.likely(3, false), 1, 82);
        FourthCorner sure = made(EVEN + "L00L10L20");
        fractionOf("likely(3)", sure.likely(3, true), sure.likely(3, false), 1, 1);
        due("likely(4, true)", half.likely(4, true), UNKNOWN);
        due("likely(4, false)", half.likely(4, false), UNKNOWN);
        due("likely(-1, true)", half.likely(-1, true), UNKNOWN);
    }

    private static void tries() {
        FourthCorner none = new FourthCorner();
        fractionOf("tries", none.tries(true), none.tries(false), 5, 2);
        FourthCorner half = made(EVEN + "L35");
        fractionOf("tries", half.tries(true), half.tries(false), 2, 1);
        FourthCorner never = made(EVEN + "L00");
        fractionOf("tries", never.tries(true), never.tries(false), 2, 1);
        FourthCorner three = made(EVEN + "L09L19L29");
        fractionOf("tries", three.tries(true), three.tries(false), 83, 41);
        FourthCorner sure = made(EVEN + "L00L10L20");
        fractionOf("tries", sure.tries(true), sure.tries(false), 1, 1);
    }

    private static void drum() {
        FourthCorner x = new FourthCorner();
        due("drum(0, 0, 0)", x.drum(0, 0, 0), 0);
        due("drum(0, 1, 0)", x.drum(0, 1, 0), 4);
        due("drum(1, 1, 0)", x.drum(1, 1, 0), 0);
        due("drum(0, 2, 1)", x.drum(0, 2, 1), 3);
        due("drum(1, 2, 1)", x.drum(1, 2, 1), 4);
        due("drum(0, 2, 10)", x.drum(0, 2, 10), 4);
        due("drum(1, 2, 10)", x.drum(1, 2, 10), 3);
        due("drum(2, 2, 20)", x.drum(2, 2, 20), 4);
        due("drum(3, 2, 30)", x.drum(3, 2, 30), 3);
        due("drum(3, 8, 33333333)", x.drum(3, 8, 33333333), 32);
        due("drum(0, 8, 33333333)", x.drum(0, 8, 33333333), 0);
        due("drum(4, 9, 9)", x.drum(4, 9, 9), UNKNOWN);
        due("drum(-1, 0, 0)", x.drum(-1, 0, 0), UNKNOWN);
        due("drum(0, -1, 0)", x.drum(0, -1, 0), OUTSIDE);
        due("drum(0, 9, 0)", x.drum(0, 9, 0), OUTSIDE);
        due("drum(0, 0, 1)", x.drum(0, 0, 1), OUTSIDE);
        due("drum(0, 2, 100)", x.drum(0, 2, 100), OUTSIDE);
        due("drum(0, 2, 40)", x.drum(0, 2, 40), OUTSIDE);
        due("drum(0, 2, 4)", x.drum(0, 2, 4), OUTSIDE);
        due("drum(0, 2, -1)", x.drum(0, 2, -1), OUTSIDE);
    }

    private static void cross() {
        FourthCorner x = new FourthCorner();
        // In a round each screw gains 4 and loses by those tightened behind it: 2, 3, 3, 4 or 2, 4, 2, 4.
        due("cross(1, 0)", x.cross(1, 0), 24);
        due("cross(1, 1)", x.cross(1, 1), 123);
        due("cross(1, 2)", x.cross(1, 2), 2);
        due("cross(5, 2)", x.cross(5, 2), 2);
        due("cross(0, 0)", x.cross(0, 0), OUTSIDE);
        due("cross(6, 0)", x.cross(6, 0), OUTSIDE);
        due("cross(1, 3)", x.cross(1, 3), OUTSIDE);
        due("cross(1, -1)", x.cross(1, -1), OUTSIDE);
    }

    private static void drawer() {
        FourthCorner x = new FourthCorner();
        fractionOf("drawer(12, 1)", x.drawer(12, 1, true), x.drawer(12, 1, false), 13, 2);
        fractionOf("drawer(11, 2)", x.drawer(11, 2, true), x.drawer(11, 2, false), 4, 1);
        fractionOf("drawer(8, 5)", x.drawer(8, 5, true), x.drawer(8, 5, false), 3, 2);
        fractionOf("drawer(12, 12)", x.drawer(12, 12, true), x.drawer(12, 12, false), 1, 1);
        due("drawer(0, 0)", x.drawer(0, 0, true), OUTSIDE);
        due("drawer(13, 1)", x.drawer(13, 1, false), OUTSIDE);
        due("drawer(5, 0)", x.drawer(5, 0, true), OUTSIDE);
        due("drawer(5, 6)", x.drawer(5, 6, false), OUTSIDE);
    }

    private static void seed() {
        FourthCorner x = new FourthCorner();
        due("seed", x.seed(Long.MIN_VALUE), 0);
        due("seed", x.seed(Long.MAX_VALUE), Long.MIN_VALUE);
        due("seed", x.seed(5), Long.MAX_VALUE);
        due("seed", x.seed(5), 5);
    }

    private static void ward() {
        FourthCorner x = laid("B199999999", 1, 2, 3, 4);
        x.seed(4);
        List<Integer> before = seen(x);
        due("ward(0)", x.ward(0), OUTSIDE);
        due("ward(31)", x.ward(31), OUTSIDE);
        due("ward(-1)", x.ward(-1), OUTSIDE);
        same("a refused ward", x, before);
        due("ward(30)", x.ward(30), 30);
        long seed = 4;
        for (int i = 0; i < 120; i++) {
            seed = seed * 6364136223846793005L + 1442695040888963407L;
        }
        due("seed behind 30", x.seed(4), seed);
        same("ward but for the seed", x, before);
        due("ward(30)", made("B311110000").ward(30), 0);
        // Only a depth of one kind all round holds on EVEN; that none of these 30 beds has it is not by hand.
        due("ward(30)", made(EVEN).ward(30), 0);
        FourthCorner bent = made("B311110000");
        for (int corner = 0; corner < 4; corner++) {
            bent.bend(corner, 3);
        }
        due("ward(30) bent, by seed 0", bent.ward(30), 1);
    }

    private static void keep() {
        FourthCorner x = made("B199991111");
        due("keep(0)", x.keep(0), 0);
        x.set(1, 2);
        x.set(2, 2);
        List<Integer> before = seen(x);
        due("keep(1)", x.keep(1), 2);
        due("keep(2)", x.keep(2), UNKNOWN);
        due("keep(-1)", x.keep(-1), UNKNOWN);
        same("keep", x, before);
        due("keep(0) anew", x.keep(0), 2);
        x.set(1, 0);
        due("again(0)", x.again(0), 2);
        due("count(4)", x.count(4), 220);
    }

    private static void again() {
        FourthCorner x = laid("B199991234", 0, 2, 2, 0);
        x.bend(1, 1);
        due("again(0)", x.again(0), STATE);
        due("again(2)", x.again(2), UNKNOWN);
        due("again(-1)", x.again(-1), UNKNOWN);
        due("count(7)", x.count(7), 3);
        x.keep(1);
        x.set(1, 0);
        x.bend(1, 3);
        x.wash();
        due("again(1)", x.again(1), 2);
        due("count(4)", x.count(4), 220);
        due("count(5)", x.count(5), 100);
        due("count(6)", x.count(6), 1234);
        due("count(7)", x.count(7), 0);
        due("undo()", x.undo(), STATE);
        due("again(0)", x.again(0), STATE);
        due("set(0, 1)", x.set(0, 1), 0);
        due("again(1), once more", x.again(1), 2);
        due("count(4)", x.count(4), 220);
    }

    private static void count() {
        FourthCorner x = laid("B299991204L01L11", 3, 2, 0, 1);
        x.bend(1, 1);
        int[] wants = {16, 2, 2, 11, 3201, 100, 1204, 4, 6};
        for (int what = 0; what < 9; what++) {
            due("count(" + what + ")", x.count(what), wants[what]);
        }
        due("count(9)", x.count(9), OUTSIDE);
        due("count(-1)", x.count(-1), OUTSIDE);
    }
}
