import java.lang.annotation.Retention;
import java.lang.annotation.RetentionPolicy;
import java.lang.reflect.InvocationTargetException;
import java.lang.reflect.Method;
import java.math.BigInteger;
import java.nio.charset.StandardCharsets;
import java.nio.file.Files;
import java.nio.file.Path;
import java.util.ArrayDeque;
import java.util.ArrayList;
import java.util.Arrays;
import java.util.Comparator;
import java.util.Deque;
import java.util.List;
import java.util.function.Supplier;
import java.util.function.ToIntBiFunction;
import java.util.function.ToLongFunction;
import java.util.regex.Matcher;
import java.util.regex.Pattern;

/**
 * A test for each sentence of the document that names a boundary case: the last input that is taken and the first
 * that is not, nothing and full, the refusals. Each bears the promises' numbers and the sentence; what is due is read
 * from the sentence. That every number and every refusal of the document stands beside a test is itself looked at.
 */
public final class FourthCornerEdges {
    @Retention(RetentionPolicy.RUNTIME)
    private @interface Edge {
        int[] promise();

        String says();
    }

    private static final int UNKNOWN = -1, OUTSIDE = -2, STATE = -3, FULL = -4, NONE = -9;
    private static final int LEAST_INT = Integer.MIN_VALUE, MOST_INT = Integer.MAX_VALUE;

    /** An edge pulls 3 at most and a corner bears 9 at least: all hold, however deep. */
    private static final String LOOSE = "B199999999";
    /** At 6666 each edge pulls 3 (12 - 3) = 27, each corner 54, and bears 9 times 6 = 54: just so. */
    private static final String JUST = "B399993333";
    /** A corner needs twice its depth to be no less than both beside it together: rows of one depth alone hold. */
    private static final String EVEN = "B144440000";
    /** Corner 0 must be as deep as 1 and 3 together; a row is 2111 at least. */
    private static final String HEAVY = "B139990000";
    /** 5 a >= 2 (b + d), 4 b >= 2 (a + c), 3 c >= 2 (b + d), 5 d >= 2 (a + c): 4564 alone holds. */
    private static final String ALONE = "B298790000";
    /** Two corners side by side never hold. */
    private static final String WEAK = "B111110000";

    private static int wrong = 0;
    private static int looked = 0;
    private static String now = "";

    // ---- what the tests share

    private static void due(String call, long got, long want) {
        looked++;
        if (got != want) {
            tell(call + " answered " + got + ", due is " + want);
        }
    }

    private static void tell(String what) {
        wrong++;
        System.out.println(now + ": " + what);
    }

    private static FourthCorner made(String text) {
        FourthCorner x = new FourthCorner();
        due("bed() of " + text, madeAnew(x, text), (text.length() - 10) / 3);
        return x;
    }

    private static int madeAnew(FourthCorner x, String text) {
        written(x, text);
        return x.bed();
    }

    private static FourthCorner written(String text) {
        return written(new FourthCorner(), text);
    }

    private static FourthCorner written(FourthCorner x, String text) {
        x.wipe();
        for (int i = 0; i < text.length(); i++) {
            due("write of " + text, x.write(text.charAt(i)), i + 1);
        }
        return x;
    }

    private static FourthCorner laid(String text, int... depths) {
        FourthCorner x = made(text);
        for (int corner = 0; corner < depths.length; corner++) {
            if (depths[corner] > 0) {
                due("set to lay " + text, x.set(corner, depths[corner]), 0);
            }
        }
        return x;
    }

    private static FourthCorner bent(String text, int... bends) {
        FourthCorner x = made(text);
        for (int corner = 0; corner < bends.length; corner++) {
            if (bends[corner] > 0) {
                due("bend of " + text, x.bend(corner, bends[corner]), 0);
            }
        }
        return x;
    }

    /** With all that a call might change: acts gone round, both slots unlike, looks, a seed, a text begun anew. */
    private static FourthCorner used() {
        FourthCorner x = made("B299985678L05L19");
        x.seed(123456789123456789L);
        x.bend(2, 1);
        x.set(0, 3);
        x.set(1, 2);
        x.keep(0);
        x.wash();
        x.bend(0, 2);
        x.set(2, 4);
        x.keep(1);
        for (int i = 0; i < 14; i++) {
            x.set(3, 1 + i % 6);
        }
        written(x, "B39");
        due("count(4) of the used bed", x.count(4), 3242);
        due("count(7) of the used bed", x.count(7), 16);
        return x;
    }

    /** All that calls can tell of it, acts and slots gone through too: it is used up by this. */
    private static List<Long> allOf(FourthCorner x) {
        List<Long> all = new ArrayList<>();
        for (int what = 0; what < 9; what++) {
            all.add((long) x.count(what));
        }
        for (int i = 0; i < 4; i++) {
            for (int what = 0; what < 6; what++) {
                all.add((long) x.corner(i, what));
            }
            all.add((long) x.edge(i, 0));
            all.add((long) x.edge(i, 1));
            all.add((long) x.likely(i, true));
            all.add((long) x.likely(i, false));
        }
        all.add(x.seed(1L));
        all.add((long) x.fault());
        for (int i = 0; i < 18; i++) {
            all.add((long) x.undo());
            addLie(all, x);
        }
        for (int slot = 0; slot < 2; slot++) {
            all.add((long) x.again(slot));
            addLie(all, x);
        }
        // Behind "B39" these make a bed, by which the letters that were there can be told.
        for (char letter : "9980123".toCharArray()) {
            all.add((long) x.write(letter));
        }
        all.add((long) x.fault());
        all.add((long) x.bed());
        all.add((long) x.count(1));
        all.add((long) x.corner(0, 2));
        addLie(all, x);
        return all;
    }

    private static void addLie(List<Long> all, FourthCorner x) {
        for (int what = 4; what < 8; what++) {
            all.add((long) x.count(what));
        }
    }

    /** The call answers as due, and nothing is otherwise by it. */
    private static void leaves(Supplier<FourthCorner> from, String call, ToLongFunction<FourthCorner> asked,
        long want) {
        FourthCorner x = from.get();
        due(call, asked.applyAsLong(x), want);
        List<Long> due = allOf(from.get());
        List<Long> is = allOf(x);
        looked++;
        if (!is.equals(due)) {
            tell(call + " changed " + due + " to " + is);
        }
    }

    private static void refused(String call, ToLongFunction<FourthCorner> asked, long want) {
        leaves(FourthCornerEdges::used, call, asked, want);
    }

    /** The first numbers that are not taken on both sides, and the farthest ones. */
    private static int[] beyond(int least, int most) {
        return new int[] {LEAST_INT, LEAST_INT + least, least - 256, least - 1, most + 1, least + 256, 65536, MOST_INT};
    }

    private static void fraction(String call, int above, int below, int wantAbove, int wantBelow) {
        due(call + " above", above, wantAbove);
        due(call + " below", below, wantBelow);
    }

    private static void likely(FourthCorner x, int corner, int above, int below) {
        fraction("likely(" + corner + ")", x.likely(corner, true), x.likely(corner, false), above, below);
    }

    private static void tries(FourthCorner x, int above, int below) {
        fraction("tries()", x.tries(true), x.tries(false), above, below);
    }

    private static void drawer(int n, int k, int above, int below) {
        FourthCorner x = new FourthCorner();
        fraction("drawer(" + n + ", " + k + ")", x.drawer(n, k, true), x.drawer(n, k, false), above, below);
    }

    private static String repeated(String part, int times) {
        return part.repeat(times);
    }

    private static String with(String text, int place, int letter) {
        return text.substring(0, place) + (char) letter + text.substring(place + 1);
    }

    private static void faultOf(String text, int want) {
        due("fault() of " + text, written(text).fault(), want);
    }

    // ---- refusals, of all calls together

    @Edge(promise = {2, 6, 7, 9, 10, 27, 33}, says = "REFUSALS, of several the first that a call names:"
        + " UNKNOWN (there is no such CORNER, EDGE, SLOT), OUTSIDE (another number is not as told), STATE (as"
        + " told), FULL.")
    private static void theFirstRefusalThatACallNames() {
        leaves(() -> written(repeated("B", 24)), "write(256) to a full text", x -> x.write(256), OUTSIDE);
        leaves(() -> written(repeated("B", 24)), "write(-1) to a full text", x -> x.write(-1), OUTSIDE);
        refused("corner(4, 6)", x -> x.corner(4, 6), UNKNOWN);
        refused("corner(-1, -1)", x -> x.corner(-1, -1), UNKNOWN);
        refused("edge(4, 2)", x -> x.edge(4, 2), UNKNOWN);
        refused("edge(-1, -1)", x -> x.edge(-1, -1), UNKNOWN);
        refused("set(4, 7)", x -> x.set(4, 7), UNKNOWN);
        refused("set(-1, -1)", x -> x.set(-1, -1), UNKNOWN);
        refused("bend(4, 4)", x -> x.bend(4, 4), UNKNOWN);
        refused("bend(-1, -1)", x -> x.bend(-1, -1), UNKNOWN);
        refused("drum(4, 9, -1)", x -> x.drum(4, 9, -1), UNKNOWN);
        refused("drum(-1, 1, 4)", x -> x.drum(-1, 1, 4), UNKNOWN);
        leaves(FourthCorner::new, "again(2), none kept", x -> x.again(2), UNKNOWN);
        leaves(FourthCorner::new, "again(-1), none kept", x -> x.again(-1), UNKNOWN);
    }

    @Edge(promise = {2, 5, 6, 7, 8, 9, 10, 12, 14, 15, 16, 18, 19, 20, 21, 22, 23, 24, 25, 27, 28, 29, 31, 32, 33, 34},
        says = "What is refused changes nothing.")
    private static void allRefusalsInARow() {
        refused("the last of them", x -> {
            long[] answers = {x.write(256), x.bed(), x.corner(4, 0), x.corner(0, 6), x.edge(4, 0), x.edge(0, 2),
                x.would(7, 0), x.would(0, 3), x.set(4, 0), x.set(0, 7), x.set(0, 3), x.bend(4, 0), x.bend(0, 4),
                x.bend(0, 2), x.turn(), x.judge(0, 0), x.judge(1, 100), x.rows(0), x.rowOf(7), x.fewest(0),
                x.fewestAt(7, 0), x.byTwo(0), x.orders(1110, 0), x.orders(1111, 2), x.creases(7111), x.bending(0),
                x.washes(7), x.likely(4, true), x.drum(4, 0, 0), x.drum(0, 9, 0), x.drum(0, 1, 4), x.cross(0, 0),
                x.cross(1, 3), x.drawer(0, 1, true), x.drawer(3, 4, false), x.ward(0), x.ward(31), x.keep(2),
                x.again(2), x.count(9)};
            long[] want = {OUTSIDE, STATE, UNKNOWN, OUTSIDE, UNKNOWN, OUTSIDE,
                OUTSIDE, OUTSIDE, UNKNOWN, OUTSIDE, STATE, UNKNOWN, OUTSIDE,
                STATE, STATE, OUTSIDE, OUTSIDE, OUTSIDE, OUTSIDE, OUTSIDE,
                OUTSIDE, OUTSIDE, OUTSIDE, OUTSIDE, OUTSIDE, OUTSIDE,
                OUTSIDE, UNKNOWN, UNKNOWN, OUTSIDE, OUTSIDE, OUTSIDE,
                OUTSIDE, OUTSIDE, OUTSIDE, OUTSIDE, OUTSIDE, UNKNOWN,
                UNKNOWN, OUTSIDE};
            for (int i = 0; i < want.length; i++) {
                due("refusal " + i + " in a row", answers[i], want[i]);
            }
            return answers[want.length - 1];
        }, OUTSIDE);
    }

    @Edge(promise = {4, 8, 14, 16, 18, 19, 20, 21, 23, 24}, says = "NONE is -9.")
    private static void noneIsMinusNine() {
        due("NONE", FourthCorner.NONE, -9);
        due("UNKNOWN", FourthCorner.UNKNOWN, -1);
        due("OUTSIDE", FourthCorner.OUTSIDE, -2);
        due("STATE", FourthCorner.STATE, -3);
        due("FULL", FourthCorner.FULL, -4);
        FourthCorner x = made(HEAVY);
        long[] nones = {x.fault(), x.would(0, 1), x.judge(1, 1), x.rowOf(4), x.fewest(4), x.fewestAt(4, 0), x.byTwo(4),
            x.orders(1111, 1), made("B311110000").bending(6), x.washes(3)};
        for (int i = 0; i < nones.length; i++) {
            due("NONE " + i, nones[i], -9);
        }
    }

    @Edge(promise = {25, 26, 29}, says = "FRACTIONS are told above (upper = true), below (1 and more), in least terms;"
        + " refusals of them are told likewise.")
    private static void fractionsAboveAndBelow() {
        FourthCorner never = made(LOOSE + "L20");
        likely(never, 2, 0, 1);
        tries(never, 2, 1);
        drawer(7, 7, 1, 1);
        drawer(7, 3, 2, 1);
        drawer(5, 3, 3, 2);
        for (boolean upper : new boolean[] {true, false}) {
            refused("likely(4, " + upper + ")", x -> x.likely(4, upper), UNKNOWN);
            refused("drawer(13, 1, " + upper + ")", x -> x.drawer(13, 1, upper), OUTSIDE);
        }
    }

    @Edge(promise = {1, 13, 34}, says = "An object is used for at most 512 calls after it has been made")
    private static void theLastOf512Calls() {
        FourthCorner x = new FourthCorner();
        for (int call = 1; call <= 510; call++) {
            due("set, call " + call, x.set(0, 1 + call % 6), 0);
        }
        due("count(7), call 511", x.count(7), 16);
        due("undo(), call 512", x.undo(), 15);
        FourthCorner searched = made(LOOSE);
        for (int call = 13; call <= 512; call++) {
            due("byTwo(6), call " + call, searched.byTwo(6), 2);
        }
    }

    // ---- the bed

    @Edge(promise = 1, says = "A bed without a sheet.")
    private static void aNewObject() {
        FourthCorner x = new FourthCorner();
        due("count(0)", x.count(0), 0);
        due("count(7)", x.count(7), 0);
        due("count(8)", x.count(8), 0);
        due("wipe()", x.wipe(), 0);
        due("bed()", x.bed(), STATE);
        due("undo()", x.undo(), STATE);
        due("again(0)", x.again(0), STATE);
        due("again(1)", x.again(1), STATE);
    }

    @Edge(promise = {1, 6, 7, 25, 26, 34}, says = "At first STIFF and GRIPS are 1, SLACKS 0, there are no LOOKS.")
    private static void atFirst() {
        FourthCorner x = new FourthCorner();
        due("count(1)", x.count(1), 1);
        due("count(2)", x.count(2), 0);
        due("count(6)", x.count(6), 0);
        for (int i = 0; i < 4; i++) {
            due("corner(" + i + ", 2)", x.corner(i, 2), 1);
            due("edge(" + i + ", 0)", x.edge(i, 0), 0);
            likely(x, i, 1, 4);
        }
        tries(x, 5, 2);
        // Each pulls 1 (1 + 1 - 0) = 2 and bears 1: 0 is the least.
        due("set(0, 1)", x.set(0, 1), 0);
        due("set(1, 1)", x.set(1, 1), 1);
    }

    @Edge(promise = {1, 5, 6, 34}, says = "DEPTHS and BENDS are 0, and when THE BED is made anew.")
    private static void depthsAndBendsAreZero() {
        FourthCorner x = new FourthCorner();
        due("count(4)", x.count(4), 0);
        due("count(5)", x.count(5), 0);
        madeAnew(x, LOOSE);
        for (int i = 0; i < 4; i++) {
            x.set(i, 6);
            x.bend(i, 3);
        }
        due("count(4)", x.count(4), 6666);
        due("count(5)", x.count(5), 3333);
        due("bed() of the same text", x.bed(), 0);
        due("count(4)", x.count(4), 0);
        due("count(5)", x.count(5), 0);
        for (int i = 0; i < 4; i++) {
            due("corner(" + i + ", 0)", x.corner(i, 0), 0);
            due("corner(" + i + ", 1)", x.corner(i, 1), 0);
        }
    }

    @Edge(promise = 2, says = "A letter (0 to 255) comes behind THE TEXT: how long it is.")
    private static void letters0To255() {
        FourthCorner x = new FourthCorner();
        due("write(0)", x.write(0), 1);
        due("write(255)", x.write(255), 2);
        due("write(1)", x.write(1), 3);
        due("write(254)", x.write(254), 4);
        due("count(0)", x.count(0), 4);
    }

    @Edge(promise = 2, says = "how long it is. OUTSIDE;")
    private static void lettersBeyond() {
        for (int far : new int[] {LEAST_INT, -256, -190, -1, 256, 322, 65602, MOST_INT}) {
            refused("write(" + far + ")", x -> x.write(far), OUTSIDE);
            leaves(FourthCorner::new, "write(" + far + ") to nothing", x -> x.write(far), OUTSIDE);
        }
    }

    @Edge(promise = 2, says = "FULL: there are 24.")
    private static void fullBehind24() {
        leaves(() -> written(repeated("B", 24)), "write(66), the 25th", x -> x.write(66), FULL);
        leaves(() -> written(repeated("B", 24)), "write(0), the 25th", x -> x.write(0), FULL);
        leaves(() -> written(repeated("B", 24)), "write(255), the 25th", x -> x.write(255), FULL);
        FourthCorner x = written(repeated("B", 24));
        due("write(66), the 25th", x.write(66), FULL);
        due("write(66), the 26th", x.write(66), FULL);
        due("count(0)", x.count(0), 24);
        due("wipe()", x.wipe(), 24);
        due("write(66) behind wipe", x.write(66), 1);
    }

    @Edge(promise = {2, 4, 34}, says = "THE TEXT is letters (24 at most).")
    private static void textOf24() {
        FourthCorner x = written(repeated("L", 23));
        due("count(0)", x.count(0), 23);
        due("write(76), the 24th", x.write(76), 24);
        due("count(0)", x.count(0), 24);
        faultOf("B399999999L39L39L39" + "L3900", 19);
    }

    @Edge(promise = 3, says = "THE TEXT is empty: how long it was.")
    private static void wipeOfNothingAndOfAll() {
        FourthCorner x = new FourthCorner();
        due("wipe() of nothing", x.wipe(), 0);
        written(x, repeated("B", 24));
        due("wipe() of 24", x.wipe(), 24);
        due("wipe() again", x.wipe(), 0);
        due("count(0)", x.count(0), 0);
        due("fault()", x.fault(), 0);
        due("write(66)", x.write(66), 1);
        due("fault() of B, what was behind is gone", x.fault(), 1);
        FourthCorner bed = laid("B212345678L05", 0, 2, 0, 0);
        due("wipe()", bed.wipe(), 13);
        due("count(1), the bed stays", bed.count(1), 2);
        due("count(2)", bed.count(2), 1);
        due("count(4)", bed.count(4), 200);
        due("count(6)", bed.count(6), 5678);
    }

    @Edge(promise = 4, says = "A BED is a TEXT: B,")
    private static void aBedBeginsWithB() {
        faultOf("B", 1);
        for (int letter : new int[] {0, 'A', 'C', 'b', '1', 'B' + 128, 255}) {
            faultOf(with("B", 0, letter), 0);
            faultOf(with(LOOSE, 0, letter), 0);
        }
    }

    @Edge(promise = {4, 5}, says = "STIFF k (1 to 3),")
    private static void stiff1To3() {
        for (int stiff = 1; stiff <= 3; stiff++) {
            faultOf("B" + stiff, 2);
            due("count(1)", made("B" + stiff + "99999999").count(1), stiff);
        }
        for (int letter : new int[] {0, '/', '0', '4', '9', 'k', '1' + 128, 255}) {
            faultOf(with("B1", 1, letter), 1);
            faultOf(with(LOOSE, 1, letter), 1);
        }
    }

    @Edge(promise = {4, 5}, says = "four figures (GRIPS of CORNERS 0 to 3, 1 to 9),")
    private static void grips1To9() {
        for (int i = 0; i < 4; i++) {
            for (int grip = 1; grip <= 9; grip++) {
                String text = with(LOOSE, 2 + i, '0' + grip);
                faultOf(text, NONE);
                due("grip in " + text, made(text).corner(i, 2), grip);
            }
            for (int letter : new int[] {0, '/', '0', ':', 'L', '1' + 128, 255}) {
                faultOf(with(LOOSE, 2 + i, letter), 2 + i);
            }
        }
    }

    @Edge(promise = {4, 5}, says = "four figures (SLACKS of EDGES 0 to 3, 0 to 9);")
    private static void slacks0To9() {
        for (int i = 0; i < 4; i++) {
            for (int slack = 0; slack <= 9; slack++) {
                String text = with(LOOSE, 6 + i, '0' + slack);
                faultOf(text, NONE);
                due("slack in " + text, made(text).edge(i, 0), slack);
            }
            for (int letter : new int[] {0, '/', ':', 'L', '0' + 128, 255}) {
                faultOf(with(LOOSE, 6 + i, letter), 6 + i);
            }
        }
    }

    @Edge(promise = {4, 5, 34}, says = "then LOOKS, none or more (3 at most): L,")
    private static void looksNoneTo3() {
        for (int many = 0; many <= 3; many++) {
            String text = LOOSE + repeated("L15", many);
            faultOf(text, NONE);
            due("count(2)", made(text).count(2), many);
        }
        faultOf(LOOSE + repeated("L15", 3) + "L", 19);
        faultOf(LOOSE + repeated("L15", 4), 19);
        faultOf(LOOSE + repeated("L15", 4) + "L1", 19);
        leaves(() -> written(LOOSE + repeated("L15", 4)), "bed() of four LOOKS", x -> x.bed(), STATE);
        for (int place = 10; place <= 16; place += 3) {
            for (int letter : new int[] {0, 'K', 'M', 'l', 'B', '1', 'L' + 128, 255}) {
                faultOf(with(LOOSE + repeated("L15", 3), place, letter), place);
            }
        }
    }

    @Edge(promise = {4, 25}, says = "L, a CORNER (0 to 3), TENTHS (0 to 9).")
    private static void looksOfCornersAndTenths() {
        for (int look = 0; look < 3; look++) {
            int place = 10 + 3 * look;
            for (int corner = 0; corner <= 3; corner++) {
                faultOf(with(LOOSE + "L15L15L15", place + 1, '0' + corner), NONE);
            }
            for (int letter : new int[] {0, '/', '4', '9', 'L', '0' + 128, 255}) {
                faultOf(with(LOOSE + "L15L15L15", place + 1, letter), place + 1);
            }
            for (int tenths = 0; tenths <= 9; tenths++) {
                faultOf(with(LOOSE + "L15L15L15", place + 2, '0' + tenths), NONE);
            }
            for (int letter : new int[] {0, '/', ':', 'L', '0' + 128, 255}) {
                faultOf(with(LOOSE + "L15L15L15", place + 2, letter), place + 2);
            }
        }
        likely(made(LOOSE + "L09"), 0, 9, 10);
        likely(made(LOOSE + "L30"), 3, 0, 1);
    }

    @Edge(promise = 4, says = "FAULT: the place of the first letter by which THE TEXT can be no BED,"
        + " whatever came behind it (its length set aside);")
    private static void theFirstOfSeveralFaults() {
        faultOf("xB1", 0);
        faultOf("B0000", 1);
        faultOf("B1111x0000L0y", 5);
        faultOf("B111110000L0yL", 12);
        faultOf(LOOSE + "x", 10);
        faultOf(LOOSE + "L15L15L15x", 19);
        faultOf(repeated("B", 24), 1);
    }

    @Edge(promise = 4, says = "its length, if it is only not at its end;")
    private static void everyBeginningOfABed() {
        String bed = LOOSE + "L00L39L15";
        for (int length = 0; length <= 19; length++) {
            boolean atItsEnd = length >= 10 && (length - 10) % 3 == 0;
            faultOf(bed.substring(0, length), atItsEnd ? NONE : length);
        }
    }

    @Edge(promise = 4, says = "NONE: none.")
    private static void noFault() {
        faultOf("B111110000", NONE);
        faultOf("B399999999", NONE);
        faultOf("B111110000L00L00L00", NONE);
        faultOf("B399999999L39L39L39", NONE);
    }

    @Edge(promise = 4, says = "FAULT; NONE.")
    private static void faultOnlyTells() {
        leaves(FourthCorner::new, "fault() of nothing", x -> x.fault(), 0);
        leaves(FourthCornerEdges::used, "fault() of B39", x -> x.fault(), 3);
        leaves(() -> written(used(), repeated("x", 24)), "fault() of 24", x -> x.fault(), 0);
        leaves(() -> written(used(), JUST), "fault() of a bed", x -> x.fault(), NONE);
    }

    @Edge(promise = 5, says = "how many LOOKS. STATE: a FAULT.")
    private static void bedOfAFault() {
        String bed = LOOSE + "L00L39L15";
        for (int length = 0; length <= 19; length++) {
            String text = bed.substring(0, length);
            if (length >= 10 && (length - 10) % 3 == 0) {
                due("bed() of " + text, written(text).bed(), (length - 10) / 3);
            } else {
                leaves(() -> written(used(), text), "bed() of " + text, x -> x.bed(), STATE);
            }
        }
        leaves(() -> written(used(), "B411110000"), "bed() of B411110000", x -> x.bed(), STATE);
        leaves(() -> written(used(), repeated("B", 24)), "bed() of 24", x -> x.bed(), STATE);
    }

    @Edge(promise = 5, says = "THE TEXT is THE BED (THE ROW of ACTS is empty, what was kept is gone; THE SEED stays):")
    private static void whatABedMadeAnewLeaves() {
        FourthCorner x = used();
        due("bed()", madeAnew(x, "B122221234L00L10L20"), 3);
        due("count(7)", x.count(7), 0);
        due("undo()", x.undo(), STATE);
        due("again(0)", x.again(0), STATE);
        due("again(1)", x.again(1), STATE);
        due("seed(0)", x.seed(0L), 123456789123456789L);
        due("count(6)", x.count(6), 1234);
        due("count(0), the text stays", x.count(0), 19);
        due("bed() once more", x.bed(), 3);
        due("count(2), looks are no more than told", x.count(2), 3);
        due("bed() without looks", madeAnew(x, LOOSE), 0);
        likely(x, 0, 1, 4);
    }

    @Edge(promise = {6, 7}, says = "CORNERS are 0 to 3, round the bed;"
        + " EDGE i is between CORNER i and the next one (3: and 0).")
    private static void edgesRoundTheBed() {
        for (int i = 0; i < 4; i++) {
            FourthCorner x = made("B199990000");
            due("set(" + i + ", 2)", x.set(i, 2), 0);
            due("set(" + (i + 1) % 4 + ", 3)", x.set((i + 1) % 4, 3), 0);
            for (int edge = 0; edge < 4; edge++) {
                due("edge(" + edge + ", 1)", x.edge(edge, 1), edge == i ? 5 : 0);
            }
            for (int corner = 0; corner < 4; corner++) {
                boolean beside = corner == i || corner == (i + 1) % 4;
                due("corner(" + corner + ", 3)", x.corner(corner, 3), beside ? 5 : 0);
            }
        }
    }

    @Edge(promise = 6, says = "Of a CORNER its DEPTH (what = 0), BEND (1), GRIP (2), PULL at it (3),"
        + " 1 if it HOLDS (4), what counts of it (5). UNKNOWN; OUTSIDE.")
    private static void cornerAndWhatBeyond() {
        FourthCorner taken = bent("B199980000", 1, 0, 0, 2);
        taken.set(0, 6);
        taken.set(3, 5);
        // Edge 3 pulls 1 (3 + 5 - 0) = 8.
        int[] ofZero = {6, 1, 9, 8, 1, 5};
        int[] ofThree = {5, 2, 8, 8, 1, 3};
        for (int what = 0; what <= 5; what++) {
            due("corner(0, " + what + ")", taken.corner(0, what), ofZero[what]);
            due("corner(3, " + what + ")", taken.corner(3, what), ofThree[what]);
        }
        for (int far : beyond(0, 3)) {
            refused("corner(" + far + ", 0)", x -> x.corner(far, 0), UNKNOWN);
        }
        for (int far : beyond(0, 5)) {
            refused("corner(0, " + far + ")", x -> x.corner(0, far), OUTSIDE);
            refused("corner(3, " + far + ")", x -> x.corner(3, far), OUTSIDE);
        }
    }

    @Edge(promise = 7, says = "Of an EDGE its SLACK (what = 0), PULL (1). UNKNOWN; OUTSIDE.")
    private static void edgeAndWhatBeyond() {
        FourthCorner taken = laid("B299990009", 6, 0, 0, 6);
        due("edge(0, 0)", taken.edge(0, 0), 0);
        due("edge(0, 1)", taken.edge(0, 1), 0);
        due("edge(3, 0)", taken.edge(3, 0), 9);
        due("edge(3, 1)", taken.edge(3, 1), 6);
        for (int far : beyond(0, 3)) {
            refused("edge(" + far + ", 0)", x -> x.edge(far, 0), UNKNOWN);
        }
        for (int far : beyond(0, 1)) {
            refused("edge(0, " + far + ")", x -> x.edge(0, far), OUTSIDE);
            refused("edge(3, " + far + ")", x -> x.edge(3, far), OUTSIDE);
        }
    }

    @Edge(promise = {6, 9, 34}, says = "DEPTH of a CORNER (0 to 6) is how far it is down (0: it is off).")
    private static void depths0To6() {
        FourthCorner x = made(LOOSE);
        for (int corner = 0; corner < 4; corner++) {
            for (int depth = 6; depth >= 0; depth--) {
                due("set(" + corner + ", " + depth + ")", x.set(corner, depth), 0);
                due("corner(" + corner + ", 0)", x.corner(corner, 0), depth);
                due("count(3)", x.count(3), depth == 0 ? 0 : 1 << corner);
            }
        }
    }

    @Edge(promise = {6, 7, 10}, says = "BEND (0 to 3) of a CORNER makes its sheet shorter:"
        + " what counts for EDGES is DEPTH less BEND (0 at least).")
    private static void whatCountsIsZeroAtLeast() {
        for (int bend = 0; bend <= 3; bend++) {
            FourthCorner x = bent("B199990000", 0, bend);
            x.set(2, 1);
            for (int depth = 1; depth <= 6; depth++) {
                int counts = depth > bend ? depth - bend : 0;
                due("set(1, " + depth + ")", x.set(1, depth), 0);
                due("corner(1, 5) of " + depth + " bent " + bend, x.corner(1, 5), counts);
                due("edge(1, 1) of " + depth + " bent " + bend, x.edge(1, 1), counts + 1);
            }
        }
        FourthCorner off = bent(LOOSE, 3);
        due("corner(0, 5), off and bent", off.corner(0, 5), 0);
        due("corner(1, 5), off", off.corner(1, 5), 0);
    }

    @Edge(promise = {6, 7, 34}, says = "PULL of an EDGE: nothing, if a CORNER of it is off;")
    private static void noPullIfACornerIsOff() {
        FourthCorner x = laid("B199990000", 6, 0, 0, 0);
        due("edge(0, 1)", x.edge(0, 1), 0);
        due("edge(3, 1)", x.edge(3, 1), 0);
        due("edge(1, 1), both off", x.edge(1, 1), 0);
        due("set(1, 1)", x.set(1, 1), 0);
        due("edge(0, 1)", x.edge(0, 1), 7);
        due("bend(1, 3)", x.bend(1, 3), 0);
        due("edge(0, 1), 1 counts nothing, but is on", x.edge(0, 1), 6);
        due("count(8)", x.count(8), 6);
        due("set(1, 0)", x.set(1, 0), 0);
        due("edge(0, 1)", x.edge(0, 1), 0);
    }

    @Edge(promise = 7, says = "else STIFF times what counts of both CORNERS less its SLACK (0 at least).")
    private static void pullIsZeroAtLeast() {
        int[][] pairs = {{4, 4, 0}, {3, 6, 0}, {4, 6, 3}, {6, 6, 9}, {1, 1, 0}};
        for (int[] pair : pairs) {
            FourthCorner x = laid("B399999000", pair[0], pair[1]);
            due("edge(0, 1) of " + pair[0] + " and " + pair[1], x.edge(0, 1), pair[2]);
        }
        due("edge(0, 1) of 6 and 6 without slack, two stiff", laid("B299990000", 6, 6).edge(0, 1), 24);
    }

    @Edge(promise = 6, says = "PULL at a CORNER: of both its EDGES together.")
    private static void pullOfBothEdges() {
        FourthCorner x = laid("B199990123", 3, 2, 2, 2);
        // Edges pull 5, 4 - 1, 4 - 2, 5 - 3.
        int[] pulls = {5 + 2, 5 + 3, 3 + 2, 2 + 2};
        for (int corner = 0; corner < 4; corner++) {
            due("corner(" + corner + ", 3)", x.corner(corner, 3), pulls[corner]);
        }
        x.set(2, 0);
        due("corner(2, 3), off", x.corner(2, 3), 0);
        due("corner(1, 3), one edge only", x.corner(1, 3), 5);
    }

    @Edge(promise = {6, 8, 9}, says = "It HOLDS, if it is off, or PULL at it is no more than GRIP times DEPTH.")
    private static void holdsJustSo() {
        FourthCorner x = laid(JUST, 6, 6, 6, 6);
        for (int corner = 0; corner < 4; corner++) {
            due("corner(" + corner + ", 3)", x.corner(corner, 3), 54);
            due("corner(" + corner + ", 4)", x.corner(corner, 4), 1);
        }
        // With one slack less at edge 0 corners 0 and 1 have 57.
        due("would(6666, 0), 57 of 54", made("B399992333").would(6666, 0), 3);
        // 1 (1 + 1 - 0) = 2 at each of both.
        due("would(1100, 0), 2 of 2", made("B122220000").would(1100, 0), 0);
        due("would(1100, 0), 2 of 1 at corner 1", made("B121220000").would(1100, 0), 2);
        FourthCorner off = made(WEAK);
        for (int corner = 0; corner < 4; corner++) {
            due("corner(" + corner + ", 4), off", off.corner(corner, 4), 1);
        }
    }

    @Edge(promise = {8, 9, 11}, says = "SLIPS: as long as not all HOLD, of those that do not the one by which"
        + " PULL is most"
        + " more than GRIP times DEPTH (of like ones the least) goes off (its DEPTH is 0).")
    private static void theOneThatSlips() {
        // All pull 4 of 1; without 0: 2 pulls 4 of 1, 1 and 3 pull 2 of 1.
        due("would(1111, 1)", made(WEAK).would(1111, 1), 0);
        due("would(1111, 2)", made(WEAK).would(1111, 2), 101);
        // Of like ones, 0 and 2 hold: 1, then 3.
        due("would(1111, 1)", made("B191910000").would(1111, 1), 1);
        due("would(1111, 2)", made("B191910000").would(1111, 2), 1010);
        // Edges pull 3, 5, 7, 5: more by 7, 6, 9, 8; then without 2 more by 7, 1, -, 1; then all hold.
        due("would(1234, 1)", made(WEAK).would(1234, 1), 2);
        due("would(1234, 2)", made(WEAK).would(1234, 2), 204);
        // Corner 3 pulls 12 of 4 and corner 2 as much of 3, but it bears 27: then 3 is the one.
        due("would(1234, 1)", made("B111910000").would(1234, 1), 3);
        // By one alone: edge 3 pulls 2, corner 3 bears 1.
        due("would(1001, 1)", made("B199910000").would(1001, 1), 3);
        due("would(1001, 2)", made("B199910000").would(1001, 2), 1000);
        FourthCorner x = laid(JUST, 6, 6, 6, 6);
        // Each edge pulls 30, each corner 60 of 54: 0 goes, then 2 alone has 60.
        due("wash()", x.wash(), 5);
        due("count(4)", x.count(4), 606);
    }

    @Edge(promise = 8, says = "If DEPTHS were a ROW (0 to 6 each):")
    private static void wouldOfTheLeastAndTheGreatest() {
        for (int what = 0; what <= 2; what++) {
            int at = what;
            leaves(FourthCornerEdges::used, "would(0, " + at + ")", x -> x.would(0, at), at == 1 ? NONE : 0);
        }
        FourthCorner x = made(LOOSE);
        due("would(6666, 0)", x.would(6666, 0), 0);
        due("would(6666, 1)", x.would(6666, 1), NONE);
        due("would(6666, 2)", x.would(6666, 2), 6666);
        for (int tens : new int[] {1, 10, 100, 1000}) {
            due("would(" + 6 * tens + ", 2)", x.would(6 * tens, 2), 6 * tens);
        }
    }

    @Edge(promise = 8, says = "which CORNERS would not HOLD at once (what = 0: bits), which slips first (1; NONE),"
        + " DEPTHS behind all SLIPS, as four figures (2).")
    private static void wouldOfNoneAndOfAll() {
        due("would(1111, 0), all", made(WEAK).would(1111, 0), 15);
        due("would(101, 0), none", made(WEAK).would(101, 0), 0);
        due("would(101, 1), none", made(WEAK).would(101, 1), NONE);
        due("would(101, 2), none", made(WEAK).would(101, 2), 101);
        leaves(() -> laid(WEAK, 1, 0, 1, 0), "would(1111, 2)", x -> x.would(1111, 2), 101);
    }

    @Edge(promise = 8, says = "as four figures (2). OUTSIDE.")
    private static void wouldBeyond() {
        for (int row : new int[] {LEAST_INT, -6666, -1, 7, 9, 70, 90, 700, 900, 7000, 9000, 6667, 7666, 10000, 10001,
            11111, 66666, MOST_INT}) {
            refused("would(" + row + ", 0)", x -> x.would(row, 0), OUTSIDE);
            refused("would(" + row + ", 2)", x -> x.would(row, 2), OUTSIDE);
        }
        for (int far : beyond(0, 2)) {
            refused("would(0, " + far + ")", x -> x.would(0, far), OUTSIDE);
            refused("would(6666, " + far + ")", x -> x.would(6666, far), OUTSIDE);
        }
    }

    // ---- acts

    @Edge(promise = 9, says = "SET: a CORNER has another DEPTH (0 to 6).")
    private static void setToTheLeastAndTheGreatest() {
        FourthCorner x = made(LOOSE);
        for (int corner = 0; corner < 4; corner++) {
            due("set(" + corner + ", 6)", x.set(corner, 6), 0);
            due("set(" + corner + ", 0)", x.set(corner, 0), 0);
            due("set(" + corner + ", 1)", x.set(corner, 1), 0);
        }
        due("count(4)", x.count(4), 1111);
        due("count(7)", x.count(7), 12);
    }

    @Edge(promise = 9, says = "SET: which slip, as bits. UNKNOWN; OUTSIDE: depth; STATE: it is so.")
    private static void setRefused() {
        for (int far : beyond(0, 3)) {
            refused("set(" + far + ", 0)", x -> x.set(far, 0), UNKNOWN);
        }
        for (int far : beyond(0, 6)) {
            refused("set(0, " + far + ")", x -> x.set(0, far), OUTSIDE);
            refused("set(3, " + far + ")", x -> x.set(3, far), OUTSIDE);
        }
        int[] depths = {3, 2, 4, 2};
        for (int corner = 0; corner < 4; corner++) {
            int at = corner;
            refused("set(" + at + ", " + depths[at] + "), so", x -> x.set(at, depths[at]), STATE);
            leaves(FourthCorner::new, "set(" + at + ", 0), off", x -> x.set(at, 0), STATE);
            leaves(() -> laid(LOOSE, 6, 6, 6, 6), "set(" + at + ", 6), so", x -> x.set(at, 6), STATE);
        }
    }

    @Edge(promise = 9, says = "which slip, as bits.")
    private static void setBits() {
        // Corner 1 bears 9; 0 and 2 have 2 of 1 each.
        FourthCorner two = laid("B119110000", 1, 0, 1, 0);
        due("set(1, 1), both beside it", two.set(1, 1), 5);
        due("count(4)", two.count(4), 100);
        // Edge 3 pulls 4: corner 3 has 4 of 1, corner 0 has 4 of 3.
        FourthCorner itself = laid(WEAK, 3, 0, 0, 0);
        due("set(3, 1), itself", itself.set(3, 1), 8);
        due("count(4)", itself.count(4), 3000);
        due("count(7), an act none the less", itself.count(7), 2);
        due("set(3, 1) once more", itself.set(3, 1), 8);
        due("set(0, 0), none", itself.set(0, 0), 0);
        due("count(7)", itself.count(7), 4);
    }

    @Edge(promise = 10, says = "BENT: which slip, as bits. UNKNOWN; OUTSIDE: bend (0 to 3); STATE: it is so.")
    private static void bendRefused() {
        for (int far : beyond(0, 3)) {
            refused("bend(" + far + ", 1)", x -> x.bend(far, 1), UNKNOWN);
            refused("bend(0, " + far + ")", x -> x.bend(0, far), OUTSIDE);
            refused("bend(3, " + far + ")", x -> x.bend(3, far), OUTSIDE);
        }
        int[] bends = {2, 0, 1, 0};
        for (int corner = 0; corner < 4; corner++) {
            int at = corner;
            refused("bend(" + at + ", " + bends[at] + "), so", x -> x.bend(at, bends[at]), STATE);
            leaves(FourthCorner::new, "bend(" + at + ", 0), so", x -> x.bend(at, 0), STATE);
            leaves(() -> bent(LOOSE, 3, 3, 3, 3), "bend(" + at + ", 3), so", x -> x.bend(at, 3), STATE);
        }
    }

    @Edge(promise = 10, says = "BENT: it has another BEND.")
    private static void bendToTheLeastAndTheGreatest() {
        FourthCorner x = made(WEAK);
        for (int corner = 0; corner < 4; corner++) {
            due("bend(" + corner + ", 3)", x.bend(corner, 3), 0);
            due("bend(" + corner + ", 0)", x.bend(corner, 0), 0);
            due("bend(" + corner + ", 3)", x.bend(corner, 3), 0);
        }
        due("count(5)", x.count(5), 3333);
        due("count(7)", x.count(7), 12);
        for (int corner = 0; corner < 4; corner++) {
            due("set(" + corner + ", 3)", x.set(corner, 3), 0);
        }
        // Only corner 1 counts, by 1: it pulls 2 of 3, its neighbours 1 of 3. By 2: 4 of 3.
        due("bend(1, 2)", x.bend(1, 2), 0);
        due("bend(1, 1)", x.bend(1, 1), 2);
        due("count(4)", x.count(4), 3033);
        due("bend(1, 0), off", x.bend(1, 0), 0);
        due("count(5)", x.count(5), 3033);
    }

    @Edge(promise = 11, says = "WASHED: each SLACK is 1 less (0 at least).")
    private static void washToNothing() {
        FourthCorner x = made("B199999810");
        int[] slacks = {8700, 7600, 6500, 5400, 4300, 3200, 2100, 1000, 0, 0, 0};
        for (int i = 0; i < slacks.length; i++) {
            due("wash() " + i, x.wash(), 0);
            due("count(6) behind wash " + i, x.count(6), slacks[i]);
            due("count(7)", x.count(7), i + 1);
        }
        due("undo()", x.undo(), 10);
        due("undo()", x.undo(), 9);
        due("undo()", x.undo(), 8);
        due("count(6)", x.count(6), 1000);
    }

    @Edge(promise = 11, says = "WASHED: which slip, as bits.")
    private static void washBits() {
        FourthCorner x = laid(JUST, 6, 6, 6, 6);
        due("wash()", x.wash(), 5);
        due("wash(), none", x.wash(), 0);
        due("wash(), none", x.wash(), 0);
        due("wash() without slack", x.wash(), 0);
        due("count(4)", x.count(4), 606);
        // Edge 2 pulls 1 (1 + 1 - 1) = 1; washed 2, of 1 each: 2 is the less.
        FourthCorner one = laid("B111110010", 0, 0, 1, 1);
        due("wash(), one of two", one.wash(), 4);
        due("wash() of a new object", new FourthCorner().wash(), 0);
    }

    @Edge(promise = 12, says = "TURNED (if all are off): EDGE i has the SLACK of the EDGE before it (0: of 3).")
    private static void turnRound() {
        FourthCorner x = made("B199990189");
        int[] first = {9, 8, 1, 0};
        int[] slacks = {9018, 8901, 1890, 189};
        for (int i = 0; i < 4; i++) {
            due("turn()", x.turn(), first[i]);
            due("count(6)", x.count(6), slacks[i]);
            due("edge(0, 0)", x.edge(0, 0), first[i]);
        }
        due("count(7)", x.count(7), 4);
        due("undo()", x.undo(), 3);
        due("count(6)", x.count(6), 1890);
        due("turn() of a new object", new FourthCorner().turn(), 0);
        FourthCorner bends = bent("B199991234", 3, 0, 1, 0);
        due("turn(), bends stay", bends.turn(), 4);
        due("count(5)", bends.count(5), 3010);
    }

    @Edge(promise = 12, says = "TURNED: SLACK of EDGE 0 then. STATE: a CORNER is on.")
    private static void turnWithACornerOn() {
        for (int corner = 0; corner < 4; corner++) {
            int[] depths = new int[4];
            depths[corner] = 1;
            leaves(() -> laid("B199991234", depths), "turn(), corner " + corner + " on", x -> x.turn(), STATE);
        }
        leaves(() -> laid(JUST, 6, 6, 6, 6), "turn(), all on", x -> x.turn(), STATE);
        FourthCorner off = laid("B199991234", 0, 0, 0, 6);
        off.set(3, 0);
        due("turn(), off again", off.turn(), 4);
    }

    @Edge(promise = 13, says = "The last ACT is undone: how many are left. STATE: there is none.")
    private static void nothingToUndo() {
        leaves(FourthCorner::new, "undo() of a new object", x -> x.undo(), STATE);
        leaves(() -> made(LOOSE), "undo() of a new bed", x -> x.undo(), STATE);
        FourthCorner x = made(LOOSE);
        x.set(0, 6);
        due("undo()", x.undo(), 0);
        due("undo() once more", x.undo(), STATE);
        due("count(4)", x.count(4), 0);
        x.keep(0);
        x.set(0, 6);
        due("again(0)", x.again(0), 0);
        due("undo() behind again", x.undo(), STATE);
        x.set(0, 7);
        x.turn();
        due("undo() of the turn, not of what was refused", x.undo(), 0);
        due("undo()", x.undo(), STATE);
    }

    @Edge(promise = {9, 10, 11, 12, 13}, says = "ACTS (these four) are a row (16 at most;"
        + " of more the first one is forgotten); the last one can be undone.")
    private static void moreActsThanAreRemembered() {
        for (int many : new int[] {15, 16, 17, 32, 33, 100}) {
            FourthCorner x = made(LOOSE);
            for (int i = 1; i <= many; i++) {
                due("set", x.set(0, 1 + i % 6), 0);
                due("count(7)", x.count(7), Math.min(i, 16));
            }
            int left = Math.min(many, 16);
            for (int at = many - 1; at >= many - left; at--) {
                due("undo() of " + many, x.undo(), at - (many - left));
                due("corner(0, 0) behind undo", x.corner(0, 0), at == 0 ? 0 : 1 + at % 6);
            }
            due("undo() of all", x.undo(), STATE);
            due("count(7)", x.count(7), 0);
        }
    }

    @Edge(promise = 13, says = "of more the first one is forgotten")
    private static void actsForgottenBetweenUndos() {
        FourthCorner x = made(LOOSE);
        Deque<Integer> before = new ArrayDeque<>();
        int depth = 0;
        for (int i = 0; i < 150; i++) {
            if (i % 20 < 14) {
                before.addLast(depth);
                depth = 1 + (depth + i % 5) % 6;
                due("set(2, " + depth + ")", x.set(2, depth), 0);
                if (before.size() > 16) {
                    before.removeFirst();
                }
            } else {
                depth = before.removeLast();
                due("undo()", x.undo(), before.size());
            }
            due("corner(2, 0)", x.corner(2, 0), depth);
        }
    }

    @Edge(promise = 13, says = "the last one can be undone.")
    private static void eachKindOfActUndone() {
        FourthCorner x = laid(JUST, 6, 6, 6, 6);
        due("wash()", x.wash(), 5);
        due("undo() of wash and its slips", x.undo(), 4);
        due("count(4)", x.count(4), 6666);
        due("count(6)", x.count(6), 3333);
        due("bend(3, 3)", x.bend(3, 3), 0);
        due("undo() of bend", x.undo(), 4);
        due("count(5)", x.count(5), 0);
        FourthCorner two = laid("B119110000", 1, 0, 1, 0);
        due("set(1, 1)", two.set(1, 1), 5);
        due("undo() of set and its slips", two.undo(), 2);
        due("count(4)", two.count(4), 1010);
        FourthCorner turned = made("B199991234");
        turned.turn();
        due("undo() of turn", turned.undo(), 0);
        due("count(6)", turned.count(6), 1234);
    }

    @Edge(promise = 14, says = "Of n SETS (1 to 4) from now on, told as 2 n figures (CORNER, DEPTH, CORNER, ..):")
    private static void judgeOfOneToFour() {
        int[] rows = {1, 111, 11121, 1112131};
        int[] deepest = {36, 2636, 162636, 6162636};
        for (int n = 1; n <= 4; n++) {
            int row = rows[n - 1];
            int deep = deepest[n - 1];
            due("judge(" + n + ", " + row + ")", made(LOOSE).judge(n, row), NONE);
            leaves(() -> made(LOOSE), "judge(" + n + ", " + deep + ")", judging(n, deep), NONE);
        }
    }

    private static ToLongFunction<FourthCorner> judging(int n, int row) {
        return x -> x.judge(n, row);
    }

    @Edge(promise = 14, says = "the place (from 0) of the first that can not be, or by which some CORNER slips;"
        + " NONE: none.")
    private static void judgeOfWhatCanNotBe() {
        leaves(() -> made(LOOSE), "judge(1, 36), the greatest of both", judging(1, 36), NONE);
        leaves(() -> made(LOOSE), "judge(1, 37), a depth too much", judging(1, 37), 0);
        leaves(() -> made(LOOSE), "judge(1, 46), no such corner", judging(1, 46), 0);
        leaves(() -> made(LOOSE), "judge(1, 0), it is so", judging(1, 0), 0);
        leaves(() -> made(LOOSE), "judge(2, 600), off again", judging(2, 600), NONE);
        leaves(() -> made(LOOSE), "judge(2, 606), it is so", judging(2, 606), 1);
        leaves(() -> laid(LOOSE, 6), "judge(1, 6), it is so", judging(1, 6), 0);
        leaves(() -> laid(LOOSE, 6), "judge(1, 0), from now on", judging(1, 0), NONE);
        due("judge(4, 7112131)", made(LOOSE).judge(4, 7112131), 0);
        due("judge(4, 1412131)", made(LOOSE).judge(4, 1412131), 1);
        due("judge(4, 1112731)", made(LOOSE).judge(4, 1112731), 2);
        due("judge(4, 1112131)", made(LOOSE).judge(4, 1112131), NONE);
        due("judge(4, 1112141)", made(LOOSE).judge(4, 1112141), 3);
        due("judge(4, 1172741), the first", made(LOOSE).judge(4, 1172741), 1);
        // Corners 0 and 1 side by side: one slips, whichever.
        leaves(() -> made(WEAK), "judge(2, 111), 0 slips", judging(2, 111), 1);
        leaves(() -> made(WEAK), "judge(2, 312), 1 itself slips", judging(2, 312), 1);
        leaves(() -> made(WEAK), "judge(3, 12111)", judging(3, 12111), 2);
    }

    @Edge(promise = 14, says = "OUTSIDE: n, row (0 or more, 2 n figures at most).")
    private static void judgeBeyond() {
        int[] tens = {1, 100, 10000, 1000000, 100000000};
        for (int n = 1; n <= 4; n++) {
            int figures = tens[n];
            leaves(() -> made(LOOSE), "judge(" + n + ", " + (figures - 1) + ")", judging(n, figures - 1), 0);
            for (int row : new int[] {LEAST_INT, -figures, -1, figures, figures + 1, MOST_INT}) {
                refused("judge(" + n + ", " + row + ")", judging(n, row), OUTSIDE);
            }
        }
        for (int far : beyond(1, 4)) {
            refused("judge(" + far + ", 0)", judging(far, 0), OUTSIDE);
            refused("judge(" + far + ", 11)", judging(far, 11), OUTSIDE);
        }
    }

    // ---- rows

    private static void outsideOf1To6(String call, ToIntBiFunction<FourthCorner, Integer> asked) {
        for (int far : beyond(1, 6)) {
            refused(call + "(" + far + ")", x -> asked.applyAsInt(x, far), OUTSIDE);
            leaves(FourthCorner::new, call + "(" + far + ")", x -> asked.applyAsInt(x, far), OUTSIDE);
        }
    }

    @Edge(promise = {15, 16, 17, 18, 19, 20, 21, 22, 23, 24, 25, 26, 27, 28, 29},
        says = "In what follows nothing is changed.")
    private static void questionsInARow() {
        leaves(FourthCornerEdges::used, "drawer(12, 1, true)", x -> {
            for (int m = 1; m <= 6; m++) {
                x.rows(m);
                x.rowOf(m);
                x.fewest(m);
                x.fewestAt(m, 0);
                x.byTwo(m);
                x.bending(m);
                x.washes(m);
            }
            x.deepest();
            x.orders(6666, 0);
            x.orders(1111, 1);
            x.creases(3241);
            x.likely(3, true);
            x.tries(false);
            x.drum(3, 8, 12301230);
            x.cross(5, 1);
            return x.drawer(12, 1, true);
        }, 13);
    }

    @Edge(promise = {15, 16}, says = "A ROW of m is one of DEPTHS m to 6 each, at which all HOLD"
        + " (BENDS, SLACKS as they are).")
    private static void rowsFromMTo6() {
        for (int m = 1; m <= 6; m++) {
            due("rows(" + m + "), all", made(LOOSE).rows(m), (7 - m) * (7 - m) * (7 - m) * (7 - m));
            due("rows(" + m + "), one of each depth", made(EVEN).rows(m), 7 - m);
            due("rowOf(" + m + ")", made(LOOSE).rowOf(m), 1111 * m);
        }
        // 6666 just holds; a wash takes it, a bend of all by 1 brings it again: 3 (10 - 2) = 24.
        FourthCorner x = made(JUST);
        due("rows(6)", x.rows(6), 1);
        x.wash();
        due("rows(6) washed", x.rows(6), 0);
        due("rowOf(6) washed", x.rowOf(6), NONE);
        for (int corner = 0; corner < 4; corner++) {
            x.bend(corner, 1);
        }
        due("rows(6) bent", x.rows(6), 1);
        due("rowOf(6) bent", x.rowOf(6), 6666);
    }

    @Edge(promise = 15, says = "How many ROWS of m there are. OUTSIDE: m (1 to 6).")
    private static void rowsBeyond() {
        due("rows(1), all", made(LOOSE).rows(1), 1296);
        due("rows(6), all", made(LOOSE).rows(6), 1);
        due("rows(1), none", made(WEAK).rows(1), 0);
        due("rows(6), none", made(WEAK).rows(6), 0);
        outsideOf1To6("rows", (x, m) -> x.rows(m));
    }

    @Edge(promise = 16, says = "The least ROW of m; NONE. OUTSIDE.")
    private static void rowOfBeyond() {
        due("rowOf(1)", made(HEAVY).rowOf(1), 2111);
        due("rowOf(3), with a 6", made(HEAVY).rowOf(3), 6333);
        due("rowOf(4), it would be 8444", made(HEAVY).rowOf(4), NONE);
        due("rowOf(6)", made(EVEN).rowOf(6), 6666);
        due("rowOf(1)", made(WEAK).rowOf(1), NONE);
        for (int m = 1; m <= 6; m++) {
            due("rowOf(" + m + "), one alone", made(ALONE).rowOf(m), m <= 4 ? 4564 : NONE);
            due("rows(" + m + "), one alone", made(ALONE).rows(m), m <= 4 ? 1 : 0);
        }
        outsideOf1To6("rowOf", (x, m) -> x.rowOf(m));
    }

    @Edge(promise = 17, says = "DEEPEST: the greatest m (1 to 6) of which there is a ROW; 0: none.")
    private static void deepest0To6() {
        // With all grips 1 and all slacks s the least deep corner of a row (d) pulls 2 (2 d - s) at least, which is
        // no more than d if 3 d is no more than 2 s; and then a row of d all round holds.
        int[] deepest = {0, 0, 1, 2, 2, 3, 4, 4, 5, 6};
        for (int slack = 0; slack <= 9; slack++) {
            String text = "B11111" + repeated("" + slack, 4);
            leaves(() -> made(text), "deepest() of " + text, x -> x.deepest(), deepest[slack]);
        }
        due("deepest(), one row alone", made(ALONE).deepest(), 4);
        due("deepest() at first", new FourthCorner().deepest(), 0);
    }

    @Edge(promise = 18, says = "FEWEST: by how many SETS (each with its SLIPS) from DEPTHS as they are"
        + " all CORNERS come to have m or more at least;")
    private static void fewestNoneNeededToAll() {
        for (int m = 1; m <= 6; m++) {
            int aim = m;
            due("fewest(" + m + ") from all off", made(LOOSE).fewest(m), 4);
            leaves(() -> laid(LOOSE, 6, 6, 6, 6), "fewest(" + m + "), they are so", x -> x.fewest(aim), 0);
            leaves(() -> laid(LOOSE, aim, aim, aim, aim), "fewest(" + m + "), just so", x -> x.fewest(aim), 0);
            due("fewest(" + m + "), one less", laid(LOOSE, m, m - 1, m, m).fewest(m), 1);
        }
        due("fewest(3), three less", laid(LOOSE, 2, 2, 3, 2).fewest(3), 3);
        // From one depth to the next each corner must be set.
        due("fewest(6)", laid(EVEN, 5, 5, 5, 5).fewest(6), 4);
    }

    @Edge(promise = 18, says = "FEWEST; NONE. OUTSIDE: m.")
    private static void fewestBeyond() {
        leaves(() -> made(HEAVY), "fewest(3)", x -> x.fewest(3), 4);
        leaves(() -> made(HEAVY), "fewest(4), there is no row", x -> x.fewest(4), NONE);
        leaves(FourthCorner::new, "fewest(1) of a new object", x -> x.fewest(1), NONE);
        outsideOf1To6("fewest", (x, m) -> x.fewest(m));
    }

    @Edge(promise = 19, says = "its SETS: of such rows of SETS the first by CORNERS, then DEPTHS, one behind"
        + " the other; NONE.")
    private static void fewestAtTheFirstOfLikeOnes() {
        for (int m = 1; m <= 6; m++) {
            for (int i = 0; i < 4; i++) {
                due("fewestAt(" + m + ", " + i + ")", made(LOOSE).fewestAt(m, i), 10 * i + m);
            }
        }
        due("fewestAt(6, 0), one less", laid(LOOSE, 6, 6, 6, 5).fewestAt(6, 0), 36);
        int[] alone = {4, 15, 26, 34};
        for (int i = 0; i < 4; i++) {
            due("fewestAt(1, " + i + "), one row alone", made(ALONE).fewestAt(1, i), alone[i]);
        }
        // 0 as deep as 1 and 3 together, set first or last: first.
        due("fewestAt(1, 0)", laid(HEAVY, 0, 1, 1, 1).fewestAt(1, 0), 2);
    }

    @Edge(promise = 19, says = "Its i-th SET (from 0): 10 times the CORNER, and the DEPTH;"
        + " NONE: there are not so many. OUTSIDE: m.")
    private static void fewestAtBeyond() {
        due("fewestAt(6, 0)", made(LOOSE).fewestAt(6, 0), 6);
        due("fewestAt(6, 3)", made(LOOSE).fewestAt(6, 3), 36);
        for (int i : new int[] {4, 5, 256, 65536, MOST_INT}) {
            leaves(() -> made(LOOSE), "fewestAt(6, " + i + ")", x -> x.fewestAt(6, i), NONE);
        }
        // Only m is named as OUTSIDE: there is no SET at such a place either.
        for (int i : new int[] {-1, -4, LEAST_INT}) {
            leaves(() -> made(LOOSE), "fewestAt(6, " + i + ")", x -> x.fewestAt(6, i), NONE);
        }
        leaves(() -> laid(LOOSE, 6, 6, 6, 6), "fewestAt(6, 0), none needed", x -> x.fewestAt(6, 0), NONE);
        leaves(() -> made(HEAVY), "fewestAt(4, 0), there is no row", x -> x.fewestAt(4, 0), NONE);
        outsideOf1To6("fewestAt(i = 0)", (x, m) -> x.fewestAt(m, 0));
        outsideOf1To6("fewestAt(i = -1)", (x, m) -> x.fewestAt(m, -1));
        outsideOf1To6("fewestAt(i = 9)", (x, m) -> x.fewestAt(m, 9));
    }

    @Edge(promise = 20, says = "BY TWO: likewise, if two unlike CORNERS are SET at once each time"
        + " (either one may be SET to the DEPTH it has), then SLIPS.")
    private static void byTwoNoneToTwo() {
        leaves(() -> laid(LOOSE, 6, 6, 6, 6), "byTwo(6), they are so", x -> x.byTwo(6), 0);
        due("byTwo(6), one less", laid(LOOSE, 6, 6, 6, 5).byTwo(6), 1);
        due("byTwo(6), two less", laid(LOOSE, 6, 5, 6, 5).byTwo(6), 1);
        due("byTwo(6), three less", laid(LOOSE, 6, 5, 5, 5).byTwo(6), 2);
        due("byTwo(6), four less", laid(LOOSE, 5, 5, 5, 5).byTwo(6), 2);
        due("byTwo(1) from all off", made(LOOSE).byTwo(1), 2);
        for (int a = 0; a < 4; a++) {
            for (int b = a + 1; b < 4; b++) {
                int[] depths = {6, 6, 6, 6};
                depths[a] = 0;
                depths[b] = 0;
                due("byTwo(6), " + a + " and " + b + " off", laid(LOOSE, depths).byTwo(6), 1);
            }
        }
        // Nothing but 2222 holds of 2 and more with these three: the other one is set to what it has.
        due("byTwo(2), one as it is", laid(EVEN, 2, 2, 2, 0).byTwo(2), 1);
    }

    @Edge(promise = 20, says = "BY TWO; NONE. OUTSIDE: m.")
    private static void byTwoBeyond() {
        due("byTwo(3)", made(HEAVY).byTwo(3), 2);
        leaves(() -> made(HEAVY), "byTwo(4), there is no row", x -> x.byTwo(4), NONE);
        leaves(FourthCorner::new, "byTwo(1) of a new object", x -> x.byTwo(1), NONE);
        outsideOf1To6("byTwo", (x, m) -> x.byTwo(m));
    }

    @Edge(promise = 21, says = "ORDERS of a ROW (1 to 6 each): from all CORNERS off, each is SET once to its DEPTH,"
        + " in some order (24 of them), with SLIPS: by how many orders all are as told in the end; the first"
        + " one (by CORNERS).")
    private static void ordersOfTheLeastAndTheGreatest() {
        for (int row : new int[] {1111, 1116, 6111, 6666}) {
            leaves(() -> laid(LOOSE, 2, 0, 2, 2), "orders(" + row + ", 0)", x -> x.orders(row, 0), 24);
            leaves(() -> laid(LOOSE, 2, 0, 2, 2), "orders(" + row + ", 1)", x -> x.orders(row, 1), 123);
        }
        due("orders(6666, 0), just so", made(JUST).orders(6666, 0), 24);
    }

    @Edge(promise = 21, says = "ORDERS: how many (what = 0), the first one as four figures (1); NONE (of 1):"
        + " there is none."
        + " OUTSIDE: row, what.")
    private static void ordersBeyond() {
        leaves(() -> made(EVEN), "orders(1112, 0), none", x -> x.orders(1112, 0), 0);
        leaves(() -> made(EVEN), "orders(1112, 1), none", x -> x.orders(1112, 1), NONE);
        for (int row : notRowsOf1To6()) {
            refused("orders(" + row + ", 0)", x -> x.orders(row, 0), OUTSIDE);
            refused("orders(" + row + ", 1)", x -> x.orders(row, 1), OUTSIDE);
        }
        for (int far : beyond(0, 1)) {
            refused("orders(1111, " + far + ")", x -> x.orders(1111, far), OUTSIDE);
        }
    }

    private static int[] notRowsOf1To6() {
        return new int[] {LEAST_INT, -1111, -1, 0, 111, 1110, 1101, 1011, 1117, 1171, 1711, 7111, 1119, 9111, 6667,
            7666, 10000, 11111, 66666, MOST_INT};
    }

    @Edge(promise = 22, says = "CREASES: by how many orders of a ROW DEPTHS come to be as they are now"
        + " (those that slipped are off).")
    private static void creasesNoneToAll() {
        leaves(() -> laid(LOOSE, 1, 1, 1, 1), "creases(1111)", x -> x.creases(1111), 24);
        leaves(() -> laid(LOOSE, 6, 6, 6, 6), "creases(6666)", x -> x.creases(6666), 24);
        due("creases(6665)", laid(LOOSE, 6, 6, 6, 6).creases(6665), 0);
        due("creases(1111) of all off", made(LOOSE).creases(1111), 0);
        // Edge 0 alone pulls, 2 of 1 at both: 0 goes off, whatever the order. With 2111: 3 of 2 and of 1: 1 goes.
        due("creases(1111)", laid("B111110999", 0, 1, 1, 1).creases(1111), 24);
        due("creases(1111)", laid("B111110999", 1, 0, 1, 1).creases(1111), 0);
        due("creases(2111)", laid("B111110999", 2, 0, 1, 1).creases(2111), 24);
        // Edges 0 and 1 alone pull: with 0, 1, 2 or 1, 0, 2 in this order only 2 of them stays, else 0 and 2.
        due("creases(1111)", laid("B111110099", 0, 0, 1, 1).creases(1111), 8);
        due("creases(1111)", laid("B111110099", 1, 0, 1, 1).creases(1111), 16);
        due("creases(1111)", laid("B111110099", 0, 1, 0, 1).creases(1111), 0);
    }

    @Edge(promise = 22, says = "CREASES. OUTSIDE: row.")
    private static void creasesBeyond() {
        for (int row : notRowsOf1To6()) {
            refused("creases(" + row + ")", x -> x.creases(row), OUTSIDE);
            leaves(FourthCorner::new, "creases(" + row + ")", x -> x.creases(row), OUTSIDE);
        }
    }

    @Edge(promise = 23, says = "BENDING for m: the least of all BENDS together (0 to 3 each, whatever they are now)"
        + " by which there is a ROW of m, as four figures; of like ones the least; NONE.")
    private static void bendingNoneToAll() {
        leaves(() -> bent(EVEN, 3, 3, 3, 3), "bending(6), none needed", x -> x.bending(6), 0);
        // At 6666 a corner pulls 24 less its bend twice and its neighbours' once, and bears 12: all must be 3.
        leaves(() -> made("B122220000"), "bending(6), all needed", x -> x.bending(6), 3333);
        leaves(() -> bent("B122220000", 0, 3, 0, 1), "bending(6), as they are", x -> x.bending(6), 3333);
        leaves(() -> made("B121220000"), "bending(6), more needed", x -> x.bending(6), NONE);
        leaves(() -> made("B111110000"), "bending(6), more needed", x -> x.bending(6), NONE);
        // Corner 0 (and 2) needs its bend twice and those of 1 and 3 to be 2 or more.
        leaves(() -> made(HEAVY), "bending(4)", x -> x.bending(4), 1000);
        leaves(() -> made("B139390000"), "bending(4), the least of like ones", x -> x.bending(4), 2);
    }

    @Edge(promise = 23, says = "BENDING; NONE. OUTSIDE: m.")
    private static void bendingBeyond() {
        due("bending(1)", made(LOOSE).bending(1), 0);
        due("bending(6)", made(LOOSE).bending(6), 0);
        due("bending(6)", made("B311110000").bending(6), NONE);
        outsideOf1To6("bending", (x, m) -> x.bending(m));
    }

    @Edge(promise = 24, says = "WASHES for m: behind how many (0 to 9) there is first no ROW of m; NONE: there"
        + " is one behind 9.")
    private static void washes0To9() {
        // With grips 1 and slacks s there is a row of m if 3 m is no more than 2 s; by each wash s is 1 less.
        int[] washes = {8, 7, 5, 4, 2, 1};
        for (int m = 1; m <= 6; m++) {
            int aim = m;
            leaves(() -> made("B111119999"), "washes(" + m + ")", x -> x.washes(aim), washes[m - 1]);
            leaves(() -> made("B111110000"), "washes(" + m + "), none now", x -> x.washes(aim), 0);
            leaves(() -> made("B144449999"), "washes(" + m + "), without slack", x -> x.washes(aim), NONE);
            leaves(() -> made("B144440000"), "washes(" + m + "), without slack", x -> x.washes(aim), NONE);
        }
        // 1111 pulls 4 - 2 s of 3 at each corner: it holds with slacks of 1, and nothing does with 0.
        leaves(() -> made("B133339999"), "washes(1)", x -> x.washes(1), 9);
        FourthCorner x = made("B133339999");
        for (int washed = 1; washed <= 10; washed++) {
            x.wash();
            due("washes(1) washed " + washed, x.washes(1), Math.max(0, 9 - washed));
        }
    }

    @Edge(promise = 24, says = "WASHES; NONE. OUTSIDE: m.")
    private static void washesBeyond() {
        due("washes(6)", made(EVEN).washes(6), NONE);
        due("washes(6)", made("B111119999").washes(6), 1);
        outsideOf1To6("washes", (x, m) -> x.washes(m));
    }

    // ---- ways, drums, drawers

    @Edge(promise = 25, says = "WAY: a label is at one of four CORNERS, each as likely at first.")
    private static void likelyWithoutLooks() {
        for (int corner = 0; corner < 4; corner++) {
            likely(new FourthCorner(), corner, 1, 4);
            likely(made(LOOSE), corner, 1, 4);
        }
    }

    @Edge(promise = {25, 26}, says = "Each LOOK tells a CORNER: by its TENTHS it is where the label is,"
        + " else it is one of the other three, as likely each (by itself).")
    private static void looksOfTheFewestAndTheMostTenths() {
        for (int corner = 0; corner < 4; corner++) {
            FourthCorner never = made(LOOSE + "L" + corner + "0");
            FourthCorner nearly = made(LOOSE + repeated("L" + corner + "9", 3));
            for (int at = 0; at < 4; at++) {
                likely(never, at, at == corner ? 0 : 1, at == corner ? 1 : 3);
                // 27 to 1 each time: 19683 of 19686.
                likely(nearly, at, at == corner ? 6561 : 1, at == corner ? 6562 : 19686);
            }
            tries(never, 2, 1);
            tries(nearly, 3282, 3281);
        }
        // 3 tenths, and a third of 7 for each of the others.
        likely(made(LOOSE + "L03"), 0, 3, 10);
        likely(made(LOOSE + "L03"), 1, 7, 30);
    }

    @Edge(promise = 25, says = "LIKELY. UNKNOWN; STATE.")
    private static void likelyBeyond() {
        for (int far : beyond(0, 3)) {
            refused("likely(" + far + ", true)", x -> x.likely(far, true), UNKNOWN);
            refused("likely(" + far + ", false)", x -> x.likely(far, false), UNKNOWN);
        }
    }

    @Edge(promise = {25, 26}, says = "LIKELY: that it is at a CORNER, by all LOOKS: a FRACTION (STATE: it can"
        + " be nowhere).")
    private static void threeLooksLeaveACorner() {
        // Only TENTHS of 0 rule a corner out, and 3 LOOKS no more than three: it is always somewhere.
        for (int looks = 0; looks < 64; looks++) {
            int[] told = {looks / 16, looks / 4 % 4, looks % 4};
            FourthCorner x = made(LOOSE + "L" + told[0] + "0L" + told[1] + "0L" + told[2] + "0");
            int left = 0;
            int weights = 0;
            int[] weight = new int[4];
            for (int corner = 0; corner < 4; corner++) {
                int at = corner;
                weight[corner] = Arrays.stream(told).anyMatch(c -> c == at) ? 0 : 1;
                left += weight[corner];
                weights += left * weight[corner];
            }
            for (int corner = 0; corner < 4; corner++) {
                likely(x, corner, weight[corner], weight[corner] == 0 ? 1 : left);
            }
            // 1 of 1, 3 of 2, 6 of 3.
            tries(x, left == 2 ? 3 : weights / left, left == 2 ? 2 : 1);
        }
    }

    @Edge(promise = 26, says = "TRIES. STATE.")
    private static void triesOfAllAndOfOne() {
        tries(new FourthCorner(), 5, 2);
        tries(made(LOOSE + "L00L10L20"), 1, 1);
        tries(made(LOOSE + "L30L20L10"), 1, 1);
        leaves(FourthCornerEdges::used, "tries(false) twice", x -> x.tries(false) - x.tries(false), 0);
    }

    @Edge(promise = 26, says = "in how many tries in the mean it is found, if CORNERS are tried in the order"
        + " that does best:")
    private static void triesInTheBestOrder() {
        // Corner 3 first: 27 of 30 at once, then 1 each: 27 + 2 + 3 + 4 of 30; with 0 first it would be more.
        tries(made(LOOSE + "L39"), 6, 5);
        tries(made(LOOSE + "L09"), 6, 5);
        // L01: 3 and 9 each of 30: the corner that was told comes last: 9 + 18 + 27 + 12.
        tries(made(LOOSE + "L01"), 11, 5);
    }

    @Edge(promise = 27, says = "DRUM: four SCREWS round, all at 0. TIGHTENED: one is 4 more, both next to it"
        + " are 1 less (0 at least).")
    private static void screwsAreZeroAtLeast() {
        FourthCorner x = new FourthCorner();
        for (int screw = 0; screw < 4; screw++) {
            due("drum(" + screw + ", 0, 0), all at 0", x.drum(screw, 0, 0), 0);
            for (int at = 0; at < 4; at++) {
                due("drum(" + at + ", 1, " + screw + ")", x.drum(at, 1, screw), at == screw ? 4 : 0);
            }
            // One, then four times the next one: 4 less 4, and a fifth time no less.
            int next = (screw + 1) % 4;
            due("drum(" + screw + ", 5, ..)", x.drum(screw, 5, screw * 10000 + next * 1111), 0);
            due("drum(" + screw + ", 6, ..)", x.drum(screw, 6, screw * 100000 + next * 11111), 0);
            due("drum(" + screw + ", 4, ..)", x.drum(screw, 4, screw * 1000 + next * 111), 1);
            due("drum(" + next + ", 6, ..)", x.drum(next, 6, screw * 100000 + next * 11111), 20);
            // And then it is 4 anew, not less by what it did not lose.
            due("drum(" + screw + ", 7, ..)", x.drum(screw, 7, screw * 1000000 + next * 111110 + screw), 4);
            int across = (screw + 2) % 4;
            due("drum(" + screw + ", 2, across)", x.drum(screw, 2, screw * 10 + across), 4);
        }
    }

    @Edge(promise = 27, says = "DRUM: how a SCREW is in the end, by a row of n (0 to 8) figures.")
    private static void drumOfNoneToEight() {
        FourthCorner x = new FourthCorner();
        int row = 0;
        for (int n = 0; n <= 8; n++) {
            due("drum(0, " + n + ", 0)", x.drum(0, n, 0), 4 * n);
            due("drum(3, " + n + ", " + row + ")", x.drum(3, n, row), 4 * n);
            row = 10 * row + 3;
        }
        // 00000003: the last one takes 1 of 28.
        due("drum(0, 8, 3)", x.drum(0, 8, 3), 27);
        due("drum(3, 8, 3)", x.drum(3, 8, 3), 4);
        due("drum(3, 8, 30000000)", x.drum(3, 8, 30000000), 0);
        leaves(FourthCornerEdges::used, "drum(0, 8, 3)", y -> y.drum(0, 8, 3), 27);
    }

    @Edge(promise = 27, says = "UNKNOWN: screw; OUTSIDE: n, row (0 or more, n figures at most, 0 to 3 each).")
    private static void drumBeyond() {
        for (int far : beyond(0, 3)) {
            refused("drum(" + far + ", 1, 0)", x -> x.drum(far, 1, 0), UNKNOWN);
        }
        for (int far : beyond(0, 8)) {
            refused("drum(0, " + far + ", 0)", x -> x.drum(0, far, 0), OUTSIDE);
        }
        int tens = 1;
        for (int n = 0; n <= 8; n++) {
            int many = n;
            for (int row : new int[] {LEAST_INT, -tens, -1, tens, MOST_INT}) {
                refused("drum(0, " + many + ", " + row + ")", x -> x.drum(0, many, row), OUTSIDE);
            }
            for (int place = 1; place < tens; place *= 10) {
                for (int figure : new int[] {4, 9}) {
                    int row = figure * place;
                    refused("drum(0, " + many + ", " + row + ")", x -> x.drum(0, many, row), OUTSIDE);
                }
            }
            tens *= 10;
        }
    }

    @Edge(promise = 28, says = "CROSS: n rounds (1 to 5), each of them in one and the same order of all four:"
        + " orders by which greatest and least SCREW in the end differ least:")
    private static void crossOfOneToFive() {
        // Tightened once, a screw is never at 0 again; it only misses the losses ahead of that. So in the end it is
        // 2 n and as many more as neighbours come ahead of it: the first of an order none, the last one 2.
        for (int n = 1; n <= 5; n++) {
            int rounds = n;
            leaves(FourthCornerEdges::used, "cross(" + n + ", 0)", x -> x.cross(rounds, 0), 24);
            leaves(FourthCornerEdges::used, "cross(" + n + ", 1)", x -> x.cross(rounds, 1), 123);
            leaves(FourthCornerEdges::used, "cross(" + n + ", 2)", x -> x.cross(rounds, 2), 2);
        }
    }

    @Edge(promise = 28, says = "CROSS: how many orders (what = 0), the first one as four figures (1),"
        + " by how much they differ (2). OUTSIDE: n, what.")
    private static void crossBeyond() {
        for (int far : beyond(1, 5)) {
            for (int what = 0; what <= 2; what++) {
                int asked = what;
                refused("cross(" + far + ", " + what + ")", x -> x.cross(far, asked), OUTSIDE);
            }
        }
        for (int far : beyond(0, 2)) {
            refused("cross(1, " + far + ")", x -> x.cross(1, far), OUTSIDE);
            refused("cross(5, " + far + ")", x -> x.cross(5, far), OUTSIDE);
        }
    }

    @Edge(promise = 29, says = "DRAWER of n (1 to 12) of which k (1 to n) are wanted:"
        + " in how many draws in the mean the first of these is found (none is put back):")
    private static void drawerOfTheFewestAndTheMost() {
        drawer(1, 1, 1, 1);
        drawer(2, 1, 3, 2);
        drawer(2, 2, 1, 1);
        drawer(12, 1, 13, 2);
        drawer(12, 11, 13, 12);
        for (int n = 1; n <= 12; n++) {
            drawer(n, n, 1, 1);
            // One is wanted: as likely in each draw.
            drawer(n, 1, n % 2 == 0 ? n + 1 : (n + 1) / 2, n % 2 == 0 ? 2 : 1);
        }
    }

    @Edge(promise = 29, says = "DRAWER. OUTSIDE: n, k.")
    private static void drawerBeyond() {
        for (boolean upper : new boolean[] {true, false}) {
            for (int far : beyond(1, 12)) {
                refused("drawer(" + far + ", 1)", x -> x.drawer(far, 1, upper), OUTSIDE);
                refused("drawer(" + far + ", " + far + ")", x -> x.drawer(far, far, upper), OUTSIDE);
            }
            for (int n = 1; n <= 12; n++) {
                int many = n;
                for (int far : beyond(1, n)) {
                    refused("drawer(" + n + ", " + far + ")", x -> x.drawer(many, far, upper), OUTSIDE);
                }
            }
        }
    }

    @Edge(promise = 30, says = "THE SEED is v: what it was.")
    private static void seedOfEveryLong() {
        FourthCorner x = new FourthCorner();
        long was = 0L;
        for (long v : new long[] {0L, 1L, -1L, Long.MIN_VALUE, Long.MAX_VALUE, -9L, 1L << 32, 0L}) {
            due("seed(" + v + ")", x.seed(v), was);
            was = v;
        }
        FourthCorner bed = laid(LOOSE, 1, 2, 3, 4);
        bed.seed(5L);
        due("count(4), nothing else is changed", bed.count(4), 1234);
        due("count(7), no act", bed.count(7), 4);
    }

    @Edge(promise = {30, 31}, says = "for CORNERS 0 to 3, one behind the other, x (THE SEED, a long; 0 at"
        + " first) becomes"
        + " x times 6364136223846793005 and 1442695040888963407 (64 bits, wrapping);")
    private static void wardBySeeds() {
        for (long from : new long[] {0L, 1L, -1L, Long.MIN_VALUE, Long.MAX_VALUE, 1L << 33, -(1L << 33)}) {
            for (int m : new int[] {1, 2, 30}) {
                FourthCorner x = made(LOOSE);
                x.seed(from);
                due("ward(" + m + ") by " + from, x.ward(m), m);
                due("the seed behind " + 4 * m, x.seed(0L), seedBehind(from, 4 * m));
            }
        }
        FourthCorner x = new FourthCorner();
        x.ward(1);
        due("the seed behind 4 from the first", x.seed(0L), seedBehind(0L, 4));
    }

    private static final BigInteger TIMES = new BigInteger("6364136223846793005");
    private static final BigInteger MORE = new BigInteger("1442695040888963407");

    private static long seedBehind(long from, int steps) {
        BigInteger x = BigInteger.valueOf(from);
        for (int i = 0; i < steps; i++) {
            x = x.multiply(TIMES).add(MORE).mod(BigInteger.ONE.shiftLeft(64));
        }
        return x.longValue();
    }

    /** Its upper 31 bits: of the 64 the lower 33 are gone, and no sign is left. */
    private static int depthOf(long seed) {
        BigInteger bits = BigInteger.valueOf(seed).mod(BigInteger.ONE.shiftLeft(64));
        return bits.shiftRight(33).mod(BigInteger.valueOf(6)).intValue() + 1;
    }

    @Edge(promise = 31, says = "of its upper 31 bits what is left by 6, and 1, is its DEPTH; it is SET, SLIPS:"
        + " how many BEDS have all CORNERS on in the end. (Nothing changes but THE SEED.)")
    private static void wardOfDepths() {
        for (long from : new long[] {0L, 7L, -7L, Long.MIN_VALUE, Long.MAX_VALUE, 4611686018427387904L}) {
            int due = 0;
            for (int bed = 0; bed < 30; bed++) {
                int[] d = new int[4];
                for (int corner = 0; corner < 4; corner++) {
                    d[corner] = depthOf(seedBehind(from, 4 * bed + corner + 1));
                }
                // What holds in the end held all along. A pair pulls 1 (d + d - 5), each bears 2 d.
                boolean all = true;
                for (int corner = 0; corner < 4; corner++) {
                    int before = d[(corner + 3) % 4] + d[corner] - 5;
                    int behind = d[corner] + d[(corner + 1) % 4] - 5;
                    all &= Math.max(0, before) + Math.max(0, behind) <= 2 * d[corner];
                }
                due += all ? 1 : 0;
            }
            FourthCorner x = made("B122225555");
            x.seed(from);
            due("ward(30) by " + from, x.ward(30), due);
        }
        leaves(FourthCornerEdges::used, "ward(30), its seed set back", x -> {
            long before = x.seed(99L);
            x.ward(30);
            x.seed(before);
            return x.ward(0);
        }, OUTSIDE);
    }

    @Edge(promise = 31, says = "A WARD by THE SEED: m BEDS (1 to 30) like this one, made from all off (BENDS as"
        + " they are):")
    private static void wardOfOneTo30() {
        for (int m = 1; m <= 30; m++) {
            due("ward(" + m + ") of what always holds", laid(LOOSE, 6, 6, 6, 6).ward(m), m);
            due("ward(" + m + ") of what never holds", made(WEAK).ward(m), 0);
        }
        // No corner counts more than 3: an edge pulls 6 - 5 = 1 at most, a corner 2 at most, and bears 2 at least.
        FourthCorner x = bent("B122225555", 3, 3, 3, 3);
        due("ward(30) of what always holds bent", x.ward(30), 30);
    }

    @Edge(promise = 31, says = "A WARD. OUTSIDE: m.")
    private static void wardBeyond() {
        for (int far : beyond(1, 30)) {
            refused("ward(" + far + ")", x -> x.ward(far), OUTSIDE);
            leaves(FourthCorner::new, "ward(" + far + ")", x -> x.ward(far), OUTSIDE);
        }
    }

    // ---- slots

    @Edge(promise = {32, 33}, says = "SLOTS 0 to 1 keep DEPTHS, BENDS, SLACKS (THE ROW of ACTS is empty when"
        + " one goes on).")
    private static void bothSlots() {
        FourthCorner x = made(LOOSE);
        due("keep(0), all off", x.keep(0), 0);
        for (int corner = 0; corner < 4; corner++) {
            x.set(corner, 6);
            x.bend(corner, 3);
        }
        for (int i = 0; i < 9; i++) {
            x.wash();
        }
        due("keep(1), all on", x.keep(1), 4);
        due("count(7), keeping is no act", x.count(7), 16);
        due("again(0)", x.again(0), 0);
        due("count(4)", x.count(4), 0);
        due("count(5)", x.count(5), 0);
        due("count(6)", x.count(6), 9999);
        due("count(7), of 16", x.count(7), 0);
        due("undo()", x.undo(), STATE);
        due("again(1)", x.again(1), 4);
        due("count(4)", x.count(4), 6666);
        due("count(5)", x.count(5), 3333);
        due("count(6)", x.count(6), 0);
        x.set(0, 5);
        due("undo() of what came since", x.undo(), 0);
        due("undo()", x.undo(), STATE);
        due("count(4)", x.count(4), 6666);
    }

    @Edge(promise = 32, says = "They are kept: how many CORNERS are on. UNKNOWN.")
    private static void keepBeyond() {
        for (int far : beyond(0, 1)) {
            refused("keep(" + far + ")", x -> x.keep(far), UNKNOWN);
            leaves(FourthCorner::new, "keep(" + far + ")", x -> x.keep(far), UNKNOWN);
        }
        FourthCorner x = made(LOOSE);
        for (int on = 0; on <= 4; on++) {
            due("keep(0)", x.keep(0), on);
            due("keep(1)", x.keep(1), on);
            if (on < 4) {
                x.set(on, 1);
            }
        }
        due("again(0), what was kept last", x.again(0), 4);
    }

    @Edge(promise = 33, says = "They are as they were kept: how many CORNERS are on. UNKNOWN; STATE: none were kept.")
    private static void againBeyond() {
        for (int far : beyond(0, 1)) {
            refused("again(" + far + ")", x -> x.again(far), UNKNOWN);
        }
        for (int slot = 0; slot <= 1; slot++) {
            int other = 1 - slot;
            leaves(() -> keptAt(other), "again(" + slot + "), only " + other + " kept", x -> x.again(1 - other), STATE);
        }
        leaves(FourthCorner::new, "again(0)", x -> x.again(0), STATE);
        leaves(FourthCorner::new, "again(1)", x -> x.again(1), STATE);
        FourthCorner x = used();
        madeAnew(x, LOOSE);
        due("again(0) of a bed made anew", x.again(0), STATE);
        due("again(1) of a bed made anew", x.again(1), STATE);
        FourthCorner y = used();
        due("again(0)", y.again(0), 2);
        due("again(0) once more", y.again(0), 2);
        due("count(4)", y.count(4), 3200);
        due("count(0), the text stays", y.count(0), 3);
        due("count(2), so do looks", y.count(2), 2);
        due("seed(0), so does the seed", y.seed(0L), 123456789123456789L);
    }

    private static FourthCorner keptAt(int slot) {
        FourthCorner x = laid(LOOSE, 3, 2, 1, 0);
        due("keep(" + slot + ")", x.keep(slot), 3);
        x.set(3, 6);
        return x;
    }

    @Edge(promise = 34, says = "0 letters of THE TEXT, 1 STIFF, 2 LOOKS, 3 CORNERS that are on (bits), 4 DEPTHS"
        + " (four figures),"
        + " 5 BENDS (four figures), 6 SLACKS (four figures), 7 ACTS in the row, 8 PULL of all EDGES together. OUTSIDE.")
    private static void countOfTheLeastAndTheMost() {
        FourthCorner x = laid("B399999999L39L39L39", 6, 6, 6, 6);
        for (int corner = 0; corner < 4; corner++) {
            x.bend(corner, 3);
            x.bend(corner, 0);
            x.bend(corner, 3);
        }
        // All count 3: 6 - 9 is no pull.
        int[] most = {19, 3, 3, 15, 6666, 3333, 9999, 16, 0};
        int[] least = {0, 1, 0, 0, 0, 0, 0, 0, 0};
        for (int what = 0; what <= 8; what++) {
            due("count(" + what + "), the most", x.count(what), most[what]);
            due("count(" + what + "), the least", new FourthCorner().count(what), least[what]);
        }
        due("count(8), 4 times 27", laid(JUST, 6, 6, 6, 6).count(8), 108);
        due("count(8), 5 and 4 - 1 and 4 - 2 and 0", laid("B199990125", 3, 2, 2, 2).count(8), 10);
        due("count(4), a leading 0", laid(LOOSE, 0, 0, 0, 6).count(4), 6);
        due("count(3)", laid(LOOSE, 0, 0, 0, 6).count(3), 8);
        due("count(5), a leading 0", bent(LOOSE, 0, 0, 3, 0).count(5), 30);
        due("count(6), a leading 0", made("B199990009").count(6), 9);
        due("count(0), the most", written(repeated("x", 24)).count(0), 24);
        for (int far : beyond(0, 8)) {
            refused("count(" + far + ")", y -> y.count(far), OUTSIDE);
        }
    }

    // ---- whether the document's words all stand beside a test

    private static final Path DOCUMENT = Path.of("../shared/DOC.md");
    private static final Pattern BOUNDARY = Pattern.compile("UNKNOWN|OUTSIDE|STATE|FULL\\b|NONE|-?\\d+");

    private static String plain(String text) {
        return text.replaceAll("\\s+", " ").trim();
    }

    private static String between(String text, String from, String to) {
        int begin = text.indexOf(from);
        int end = text.indexOf(to, begin + 1);
        return begin < 0 ? "" : text.substring(begin + from.length(), end < 0 ? text.length() : end);
    }

    private static void compareWithDocument(List<Method> edges) throws Exception {
        if (!Files.isRegularFile(DOCUMENT)) {
            System.out.println(DOCUMENT + " is not here: the sentences were not compared with it");
            return;
        }
        String document = Files.readString(DOCUMENT, StandardCharsets.UTF_8);
        now = "the document";
        for (Method edge : edges) {
            String says = edge.getAnnotation(Edge.class).says();
            if (!plain(document).contains(says)) {
                tell("has no sentence \"" + says + "\"");
            }
        }
        lookForGaps("Terms", between(document, "\n## Terms\n", "\n## "), edges, 0);
        for (int promise = 1; promise <= 34; promise++) {
            String text = between(document, "\n## Promise " + promise + ":", "\n## ");
            lookForGaps("promise " + promise, text.substring(text.indexOf('\n') + 1), edges, promise);
        }
    }

    /** Numbers and refusals of this part (the terms, or of one promise) that no test's sentence has. */
    private static void lookForGaps(String part, String text, List<Method> edges, int promise) {
        String left = plain(text.replaceAll("==== \\d ", ""));
        boolean any = false;
        boolean[] said = new boolean[left.length()];
        for (Method method : edges) {
            Edge edge = method.getAnnotation(Edge.class);
            if (promise != 0 && Arrays.stream(edge.promise()).noneMatch(p -> p == promise)) {
                continue;
            }
            any = true;
            for (int at = left.indexOf(edge.says()); at >= 0; at = left.indexOf(edge.says(), at + 1)) {
                Arrays.fill(said, at, at + edge.says().length(), true);
            }
        }
        if (!any) {
            tell(part + " has no test");
        }
        Matcher matcher = BOUNDARY.matcher(left);
        while (matcher.find()) {
            if (!said[matcher.start()]) {
                int from = Math.max(0, matcher.start() - 40);
                tell(part + ": no test bears \".." + left.substring(from, matcher.end()) + "\"");
            }
        }
    }

    public static void main(String[] args) throws Exception {
        List<Method> edges = new ArrayList<>();
        for (Method method : FourthCornerEdges.class.getDeclaredMethods()) {
            if (method.isAnnotationPresent(Edge.class)) {
                edges.add(method);
            }
        }
        edges.sort(Comparator.comparing(Method::getName));
        for (Method method : edges) {
            Edge edge = method.getAnnotation(Edge.class);
            now = "promise " + Arrays.toString(edge.promise()) + " \"" + edge.says() + "\"";
            try {
                method.invoke(null);
            } catch (InvocationTargetException thrown) {
                tell(method.getName() + " threw " + thrown.getCause());
            }
        }
        compareWithDocument(edges);
        if (wrong != 0) {
            System.out.println(wrong + " answers are not as due");
            System.exit(1);
        }
        System.out.println("all " + edges.size() + " edges hold, by " + looked + " answers");
    }
}
