import java.lang.management.ManagementFactory;
import java.math.BigInteger;
import java.nio.charset.StandardCharsets;
import java.nio.file.Files;
import java.nio.file.Path;
import java.util.Set;
import java.util.TreeSet;
import java.util.function.IntConsumer;

/**
 * "An object is used for at most 512 calls after it has been made": for each promise a run of just 512 calls, most of
 * them of its own call. Each run bears the promise's number and the sentence from which its answers are read. The
 * room that 512 calls take is looked at too.
 */
public final class FourthCornerLongRuns {
    private static final int UNKNOWN = -1, OUTSIDE = -2, STATE = -3, FULL = -4, NONE = -9;
    private static final int CALLS = 512;
    private static final Path DOCUMENT = Path.of("../shared/DOC.md");

    /** An edge pulls 3 at most and a corner bears 9 at least: all hold, however deep. */
    private static final String LOOSE = "B199999999";
    /** Depths a, b, c, d hold, if a >= b + d, 7 b >= a + c, 7 c >= b + d, 7 d >= a + c. */
    private static final String HEAVY = "B139990000";
    /** The same, but that a >= b + d - 2 is enough as long as edge 0 is not washed. */
    private static final String EASED = "B139992000";
    /** Two corners side by side never hold: of 1 and 1 each pulls 2 and bears 1. */
    private static final String WEAK = "B111110000";

    private static int wrong = 0;
    private static String document = "";
    private static final Set<Integer> promises = new TreeSet<>();

    private static FourthCorner x = null;
    private static int promise = 0;
    private static String says = "";
    private static int calls = 0;

    // ---- what the runs share

    private static void tell(String what) {
        wrong++;
        if (wrong <= 40) {
            System.out.println("promise " + promise + " \"" + says + "\": " + what);
        }
    }

    /** Every answer of a run goes through here, one for each call: so calls are counted by it. */
    private static void due(String call, long got, long want) {
        calls++;
        if (got != want) {
            tell(call + ", call " + calls + " of the run, answered " + got + ", due is " + want);
        }
    }

    private static void begin(int number, String sentence) {
        promise = number;
        says = sentence;
        promises.add(number);
        if (!document.isEmpty() && !document.contains(sentence)) {
            tell("is not in the document");
        }
        x = new FourthCorner();
        calls = 0;
    }

    private static void begin(int number, String sentence, String text) {
        begin(number, sentence);
        for (int i = 0; i < text.length(); i++) {
            due("write", x.write(text.charAt(i)), i + 1);
        }
        due("bed() of " + text, x.bed(), (text.length() - 10) / 3);
    }

    private static void lay(int... depths) {
        for (int corner = 0; corner < 4; corner++) {
            if (depths[corner] > 0) {
                due("set(" + corner + ", " + depths[corner] + ")", x.set(corner, depths[corner]), 0);
            }
        }
    }

    private static boolean more() {
        return calls < CALLS;
    }

    private static boolean more(int many) {
        return calls + many <= CALLS;
    }

    /** Rounds of so many calls; what is left behind the last whole one asks for the letters of the text. */
    private static void rounds(int many, int letters, IntConsumer round) {
        for (int i = 0; more(many); i++) {
            round.accept(i);
        }
        while (more()) {
            due("count(0)", x.count(0), letters);
        }
        end();
    }

    private static void end() {
        if (calls != CALLS) {
            tell("the run has " + calls + " calls");
        }
    }

    // ---- the bed

    private static void newObject() {
        begin(1, "At first STIFF and GRIPS are 1, SLACKS 0, there are no LOOKS. DEPTHS and BENDS are 0");
        rounds(15, 0, i -> {
            for (int what = 0; what <= 8; what++) {
                due("count(" + what + ")", x.count(what), what == 1 ? 1 : 0);
            }
            due("corner(.., 2)", x.corner(i % 4, 2), 1);
            due("corner(.., 3)", x.corner(i % 4, 3), 0);
            due("edge(.., 0)", x.edge(i % 4, 0), 0);
            due("undo()", x.undo(), STATE);
            due("again(0)", x.again(0), STATE);
            due("again(1)", x.again(1), STATE);
        });
    }

    private static void write() {
        begin(2, "A letter (0 to 255) comes behind THE TEXT: how long it is. OUTSIDE; FULL: there are 24.");
        for (int i = 1; i <= 24; i++) {
            due("write(" + i + ")", x.write(i), i);
        }
        rounds(2, 24, i -> {
            due("write to a full text", x.write(i), i < 256 ? FULL : OUTSIDE);
            due("write beyond 255", x.write(256 + i), OUTSIDE);
        });
    }

    private static void wipe() {
        begin(3, "THE TEXT is empty: how long it was.");
        rounds(25, 0, round -> {
            for (int i = 1; i <= 24; i++) {
                due("write(66)", x.write(66), i);
            }
            due("wipe()", x.wipe(), 24);
        });
    }

    private static void fault() {
        begin(4, "its length, if it is only not at its end; NONE: none.");
        String whole = "B212340987L01L29L33";
        rounds(2 * whole.length() + 2, 0, round -> {
            due("fault() of nothing", x.fault(), 0);
            for (int i = 1; i <= whole.length(); i++) {
                due("write", x.write(whole.charAt(i - 1)), i);
                due("fault()", x.fault(), i == 10 || i == 13 || i == 16 || i == 19 ? NONE : i);
            }
            due("wipe()", x.wipe(), 19);
        });
    }

    private static void faultThatStays() {
        begin(4, "the place of the first letter by which THE TEXT can be no BED, whatever came behind it");
        due("write(66)", x.write('B'), 1);
        due("write(52)", x.write('4'), 2);
        rounds(2, 24, i -> {
            due("write(49)", x.write('1'), i < 22 ? i + 3 : FULL);
            due("fault(), STIFF is 4", x.fault(), 1);
        });
    }

    private static void bed() {
        begin(5, "THE TEXT is THE BED (THE ROW of ACTS is empty, what was kept is gone; THE SEED stays):"
            + " how many LOOKS.", "B299991234L05");
        due("seed(77)", x.seed(77L), 0);
        rounds(13, 13, round -> {
            due("set(2, 5)", x.set(2, 5), 0);
            due("bend(3, 1)", x.bend(3, 1), 0);
            due("keep", x.keep(round % 2), 1);
            due("wash()", x.wash(), 0);
            due("count(6)", x.count(6), 123);
            due("bed()", x.bed(), 1);
            due("undo()", x.undo(), STATE);
            due("again", x.again(round % 2), STATE);
            due("count(4)", x.count(4), 0);
            due("count(5)", x.count(5), 0);
            due("count(6)", x.count(6), 1234);
            due("count(0)", x.count(0), 13);
            due("seed", x.seed(78L + round), 77L + round);
        });
    }

    private static void bedRefused() {
        begin(5, "STATE: a FAULT.", WEAK);
        due("set(0, 3)", x.set(0, 3), 0);
        due("write(77)", x.write('M'), 11);
        rounds(3, 11, i -> {
            due("bed() of a fault", x.bed(), STATE);
            due("corner(0, 0)", x.corner(0, 0), 3);
            due("count(7)", x.count(7), 1);
        });
    }

    private static void corner() {
        begin(6, "Of a CORNER its DEPTH (what = 0), BEND (1), GRIP (2), PULL at it (3), 1 if it HOLDS (4),"
            + " what counts of it (5).", "B298770120");
        due("bend(0, 3)", x.bend(0, 3), 0);
        due("bend(3, 1)", x.bend(3, 1), 0);
        lay(6, 4, 2, 3);
        // 3, 4, 2, 2 count: edges pull 2 (7 - 0), 2 (6 - 1), 2 (4 - 2), 2 (4 + 1 - 0); corners bear 54, 32, 14, 21.
        int[][] want = {{6, 3, 9, 24, 1, 3}, {4, 0, 8, 24, 1, 4}, {2, 0, 7, 14, 1, 2}, {3, 1, 7, 14, 1, 2}};
        rounds(1, 10, i -> due("corner(" + i / 6 % 4 + ", " + i % 6 + ")", x.corner(i / 6 % 4, i % 6),
            want[i / 6 % 4][i % 6]));
    }

    private static void edge() {
        begin(7, "Of an EDGE its SLACK (what = 0), PULL (1).", "B298770120");
        lay(3, 4, 2, 2);
        int[][] want = {{0, 14}, {1, 10}, {2, 4}, {0, 10}};
        rounds(4, 10, i -> {
            due("edge(.., 0)", x.edge(i % 4, 0), want[i % 4][0]);
            due("edge(.., 1)", x.edge(i % 4, 1), want[i % 4][1]);
            due("edge(.., 2)", x.edge(i % 4, 2 + i), OUTSIDE);
            due("edge(4 ..)", x.edge(4 + i, 0), UNKNOWN);
        });
    }

    private static void would() {
        begin(8, "If DEPTHS were a ROW (0 to 6 each): which CORNERS would not HOLD at once (what = 0: bits),"
            + " which slips first (1; NONE), DEPTHS behind all SLIPS, as four figures (2).", HEAVY);
        lay(2, 1, 1, 1);
        rounds(13, 10, i -> {
            // 0 is pulled 4 and bears 3.
            due("would(1111, 0)", x.would(1111, 0), 1);
            due("would(1111, 1)", x.would(1111, 1), 0);
            due("would(1111, 2)", x.would(1111, 2), 111);
            // 1 and 3 are pulled 14 and bear 9; with 1 off 3 is still pulled so.
            due("would(6161, 0)", x.would(6161, 0), 10);
            due("would(6161, 1)", x.would(6161, 1), 1);
            due("would(6161, 2)", x.would(6161, 2), 6060);
            due("would(6333, 0)", x.would(6333, 0), 0);
            due("would(6333, 1)", x.would(6333, 1), NONE);
            due("would(6333, 2)", x.would(6333, 2), 6333);
            due("would(0, 2)", x.would(0, 2), 0);
            due("would(6667, 0)", x.would(6667, 0), OUTSIDE);
            due("would(10000, 1)", x.would(10000 + i, 1), OUTSIDE);
            due("count(4)", x.count(4), 2111);
        });
    }

    // ---- acts

    private static void set() {
        begin(9, "SET: which slip, as bits. UNKNOWN; OUTSIDE: depth; STATE: it is so.", HEAVY);
        lay(2, 1, 1, 0);
        rounds(7, 10, i -> {
            // 0 is pulled 3 + 3 = 6 and bears 6; by 2 at 3 it is pulled 7.
            due("set(3, 1)", x.set(3, 1), 0);
            due("set(3, 1) again", x.set(3, 1), STATE);
            due("set(3, 2)", x.set(3, 2), 1);
            due("set(3, 7)", x.set(3, 7 + i), OUTSIDE);
            due("set(4, 1)", x.set(4 + i, 1), UNKNOWN);
            due("set(3, 0)", x.set(3, 0), 0);
            due("set(0, 2)", x.set(0, 2), 0);
        });
    }

    private static void bend() {
        begin(10, "BENT: which slip, as bits. UNKNOWN; OUTSIDE: bend (0 to 3); STATE: it is so.", HEAVY);
        due("bend(0, 1)", x.bend(0, 1), 0);
        lay(2, 2, 1, 0);
        rounds(8, 10, i -> {
            // 0 counts 1 and is pulled (1 + 2) + (1 + 2) = 6 of 6; straight it is pulled 8.
            due("set(3, 2)", x.set(3, 2), 0);
            due("bend(0, 1) again", x.bend(0, 1), STATE);
            due("bend(0, 0)", x.bend(0, 0), 1);
            due("bend(0, 4)", x.bend(0, 4 + i), OUTSIDE);
            due("bend(4, 0)", x.bend(4 + i, 0), UNKNOWN);
            due("bend(0, 1)", x.bend(0, 1), 0);
            due("set(3, 0)", x.set(3, 0), 0);
            due("set(0, 2)", x.set(0, 2), 0);
        });
    }

    private static void wash() {
        begin(11, "WASHED: which slip, as bits.", "B399999999");
        lay(6, 6, 6, 6);
        // At SLACK s each corner is pulled 6 (12 - s) and bears 54: s = 2 is too little. Of like ones 0 goes off,
        // and of the others only 2 still has both its edges.
        rounds(2, 10, i -> {
            due("wash() " + i, x.wash(), i == 6 ? 5 : 0);
            due("count(6)", x.count(6), 1111 * Math.max(0, 8 - i));
        });
    }

    private static void turn() {
        begin(12, "TURNED: SLACK of EDGE 0 then. STATE: a CORNER is on.", "B199991234");
        int[] rows = {4123, 3412, 2341, 1234};
        rounds(5, 10, i -> {
            due("turn()", x.turn(), rows[i % 4] / 1000);
            due("count(6)", x.count(6), rows[i % 4]);
            due("set(3, 1)", x.set(i % 4, 1), 0);
            due("turn(), one is on", x.turn(), STATE);
            due("set(3, 0)", x.set(i % 4, 0), 0);
        });
    }

    private static void undo() {
        begin(13, "The last ACT is undone: how many are left. STATE: there is none.", LOOSE);
        // 20 acts, of which 16 can be undone: what is left is how it was behind the 4th.
        rounds(42, 10, round -> {
            for (int i = 1; i <= 20; i++) {
                due("set(0, ..)", x.set(0, i % 6 + 1), 0);
            }
            due("count(7)", x.count(7), 16);
            for (int i = 15; i >= 0; i--) {
                due("undo()", x.undo(), i);
            }
            due("corner(0, 0)", x.corner(0, 0), 5);
            due("undo() of none", x.undo(), STATE);
            due("set(0, 0)", x.set(0, 0), 0);
            due("undo()", x.undo(), 0);
            due("count(4)", x.count(4), 5000);
        });
    }

    private static void judge() {
        begin(14, "the place (from 0) of the first that can not be, or by which some CORNER slips; NONE: none.", HEAVY);
        rounds(9, 10, i -> {
            due("judge(4, 02112131)", x.judge(4, 2112131), NONE);
            due("judge(4, 01112131)", x.judge(4, 1112131), 3);
            due("judge(2, 0101)", x.judge(2, 101), 1);
            due("judge(1, 40)", x.judge(1, 40), 0);
            due("judge(1, 07)", x.judge(1, 7), 0);
            due("judge(3, 061626)", x.judge(3, 61626), NONE);
            due("judge(5, 0)", x.judge(5 + i, 0), OUTSIDE);
            due("judge(1, 100)", x.judge(1, 100 + i), OUTSIDE);
            due("count(4)", x.count(4), 0);
        });
    }

    // ---- rows

    private static void rows() {
        begin(15, "How many ROWS of m there are. OUTSIDE: m (1 to 6).", HEAVY);
        // m = 3: 63c3, c from 3. m = 2: (b, d) are 22 with a of 4 to 6, 23 and 32 with 5 and 6, 33, 24, 42 with 6, and
        // five c each. m = 1: these with six c each; or b or d is 1 and then a + c is 7 at most: 11 has 15 such,
        // 12 has 10, 13 has 6, 14 has 3, 15 has 1, and so has each the other way round: 60 + 15 + 40.
        int[] want = {OUTSIDE, 115, 50, 4, 0, 0, 0, OUTSIDE};
        rounds(8, 10, i -> {
            for (int m = 0; m <= 7; m++) {
                due("rows(" + m + ")", x.rows(m), want[m]);
            }
        });
    }

    private static void rowOf() {
        begin(16, "The least ROW of m; NONE. OUTSIDE.", HEAVY);
        int[] want = {OUTSIDE, 2111, 4222, 6333, NONE, NONE, NONE, OUTSIDE};
        rounds(8, 10, i -> {
            for (int m = 0; m <= 7; m++) {
                due("rowOf(" + m + ")", x.rowOf(m), want[m]);
            }
        });
    }

    private static void deepest() {
        begin(17, "DEEPEST: the greatest m (1 to 6) of which there is a ROW; 0: none.", EASED);
        // At a = 6 both b and d may be 4; washed once 7 is too much for it, and twice 3 and 3 are just so.
        rounds(6, 10, i -> {
            due("deepest()", x.deepest(), 4);
            due("wash()", x.wash(), 0);
            due("deepest(), washed once", x.deepest(), 3);
            due("wash()", x.wash(), 0);
            due("deepest(), washed twice", x.deepest(), 3);
            due("bed()", x.bed(), 0);
        });
    }

    private static void fewest() {
        begin(18, "by how many SETS (each with its SLIPS) from DEPTHS as they are all CORNERS come to have m or more",
            HEAVY);
        lay(6, 1, 1, 0);
        int[] want = {OUTSIDE, 1, 3, 3, NONE, NONE, NONE, OUTSIDE};
        rounds(9, 10, i -> {
            for (int m = 0; m <= 7; m++) {
                due("fewest(" + m + ")", x.fewest(m), want[m]);
            }
            due("count(4)", x.count(4), 6110);
        });
    }

    private static void fewestAt() {
        begin(19, "Its i-th SET (from 0): 10 times the CORNER, and the DEPTH; NONE: there are not so many.", HEAVY);
        // The least row of m, corner by corner: with a lesser first one 0 does not hold in the end.
        int[][] want = {{2, 11, 21, 31, NONE}, {4, 12, 22, 32, NONE}, {6, 13, 23, 33, NONE},
            {NONE, NONE, NONE, NONE, NONE}};
        rounds(22, 10, round -> {
            for (int m = 1; m <= 4; m++) {
                for (int i = 0; i <= 4; i++) {
                    due("fewestAt(" + m + ", " + i + ")", x.fewestAt(m, i), want[m - 1][i]);
                }
            }
            due("fewestAt(7, 0)", x.fewestAt(7 + round, 0), OUTSIDE);
            due("count(4)", x.count(4), 0);
        });
    }

    private static void byTwo() {
        begin(20, "if two unlike CORNERS are SET at once each time (either one may be SET to the DEPTH it has)", HEAVY);
        lay(6, 1, 1, 0);
        int[] want = {OUTSIDE, 1, 2, 2, NONE, NONE, NONE, OUTSIDE};
        rounds(9, 10, i -> {
            for (int m = 0; m <= 7; m++) {
                due("byTwo(" + m + ")", x.byTwo(m), want[m]);
            }
            due("count(4)", x.count(4), 6110);
        });
    }

    private static void orders() {
        begin(21, "by how many orders all are as told in the end; the first one (by CORNERS).", HEAVY);
        lay(6, 3, 3, 3);
        rounds(7, 10, i -> {
            due("orders(2111, 0)", x.orders(2111, 0), 24);
            due("orders(2111, 1)", x.orders(2111, 1), 123);
            due("orders(1111, 0)", x.orders(1111, 0), 0);
            due("orders(1111, 1)", x.orders(1111, 1), NONE);
            due("orders(6330, 0)", x.orders(6330, 0), OUTSIDE);
            due("orders(6333, 2)", x.orders(6333, 2 + i), OUTSIDE);
            due("count(4)", x.count(4), 6333);
        });
    }

    private static void creases() {
        begin(22, "by how many orders of a ROW DEPTHS come to be as they are now (those that slipped are off).", WEAK);
        lay(1, 0, 1, 0);
        // Of 1111 one that comes beside one other makes the lesser of both go off; between two it goes off itself,
        // pulled 4 of 1. So 0 and 2 stay by 0213, 0231, 2013, 2031, 1203 and 2103.
        rounds(4, 10, i -> {
            due("creases(1111)", x.creases(1111), 6);
            due("creases(2111), 0 is 1", x.creases(2111), 0);
            due("creases(1110)", x.creases(1110), OUTSIDE);
            due("count(4)", x.count(4), 1010);
        });
    }

    private static void bending() {
        begin(23, "the least of all BENDS together (0 to 3 each, whatever they are now) by which there is a ROW of m,"
            + " as four figures; of like ones the least; NONE.", HEAVY);
        due("bend(1, 3)", x.bend(1, 3), 0);
        // 0 at 6 bears 18 and is pulled 12 and 2 m, less 2 for each of its own bends, less 1 for each of 1 and 3.
        int[] want = {OUTSIDE, 0, 0, 0, 1000, 2000, 3000, OUTSIDE};
        rounds(9, 10, i -> {
            for (int m = 0; m <= 7; m++) {
                due("bending(" + m + ")", x.bending(m), want[m]);
            }
            due("count(5)", x.count(5), 300);
        });
    }

    private static void bendingOfLikeOnes() {
        begin(23, "of like ones the least; NONE.", "B133332222");
        due("bend(0, 1)", x.bend(0, 1), 0);
        // At 6666 a corner is pulled 20 and bears 18; each bend is 2 less for its own corner and 1 less for both beside
        // it. So 1010 and 0101 do, and no other of 2 together.
        rounds(2, 10, i -> {
            due("bending(6)", x.bending(6), 101);
            due("count(5)", x.count(5), 1000);
        });
    }

    private static void washes() {
        begin(24, "behind how many (0 to 9) there is first no ROW of m; NONE: there is one behind 9.", EASED);
        int[] want = {OUTSIDE, NONE, NONE, NONE, 1, 0, 0, OUTSIDE};
        rounds(9, 10, i -> {
            for (int m = 0; m <= 7; m++) {
                due("washes(" + m + ")", x.washes(m), want[m]);
            }
            due("count(6)", x.count(6), 2000);
        });
    }

    // ---- ways, drums, drawers

    private static void likely() {
        begin(25, "LIKELY: that it is at a CORNER, by all LOOKS: a FRACTION", LOOSE + "L05L19");
        // 5/10 and 1/30; 5/30 and 9/10; 5/30 and 1/30 twice: as 15 to 135 to 5 to 5, 160 in all.
        int[] above = {3, 27, 1, 1};
        rounds(10, 16, i -> {
            for (int corner = 0; corner < 4; corner++) {
                due("likely(" + corner + ", true)", x.likely(corner, true), above[corner]);
                due("likely(" + corner + ", false)", x.likely(corner, false), 32);
            }
            due("likely(4, true)", x.likely(4 + i, true), UNKNOWN);
            due("likely(-1, false)", x.likely(-1 - i, false), UNKNOWN);
        });
    }

    private static void tries() {
        begin(26, "in how many tries in the mean it is found, if CORNERS are tried in the order that does best",
            LOOSE + "L05L19");
        // (135 + 2 15 + 3 5 + 4 5) of 160.
        rounds(2, 16, i -> {
            due("tries(true)", x.tries(true), 5);
            due("tries(false)", x.tries(false), 4);
        });
    }

    private static void drum() {
        begin(27, "TIGHTENED: one is 4 more, both next to it are 1 less (0 at least).");
        // By 0123: 4000, 3400, 3340, 2334; by the same again 6233, 5623, 5562, 4556.
        int[][] want = {{2, 3, 3, 4}, {4, 5, 5, 6}};
        rounds(11, 0, i -> {
            for (int screw = 0; screw < 4; screw++) {
                due("drum(" + screw + ", 4, 0123)", x.drum(screw, 4, 123), want[0][screw]);
                due("drum(" + screw + ", 8, 01230123)", x.drum(screw, 8, 1230123), want[1][screw]);
            }
            due("drum(0, 0, 0)", x.drum(0, 0, 0), 0);
            due("drum(0, 9, 0)", x.drum(0, 9 + i, 0), OUTSIDE);
            due("drum(4, 1, 0)", x.drum(4 + i, 1, 0), UNKNOWN);
        });
    }

    private static void cross() {
        begin(28, "orders by which greatest and least SCREW in the end differ least: how many; the first one;"
            + " by how much.");
        // One round: 0123 makes 2334, 0132 makes 2343, 0213 makes 2424, the others are these turned or mirrored.
        // In a further round none is below 2, so each is 4 more and 2 less.
        rounds(3, 0, i -> {
            int n = 1 + i % 5;
            due("cross(" + n + ", 0)", x.cross(n, 0), 24);
            due("cross(" + n + ", 1)", x.cross(n, 1), 123);
            due("cross(" + n + ", 2)", x.cross(n, 2), 2);
        });
    }

    private static void drawer() {
        begin(29, "in how many draws in the mean the first of these is found (none is put back): a FRACTION.");
        rounds(2, 0, i -> {
            int n = 1 + i % 12;
            int k = 1 + i / 12 % n;
            BigInteger[] mean = meanDraws(n, k);
            due("drawer(" + n + ", " + k + ", true)", x.drawer(n, k, true), mean[0].longValueExact());
            due("drawer(" + n + ", " + k + ", false)", x.drawer(n, k, false), mean[1].longValueExact());
        });
    }

    /** Of all ways that k of n can lie, 2^n looked through: the sum of the first one's places, and their number. */
    private static BigInteger[] meanDraws(int n, int k) {
        long places = 0;
        long ways = 0;
        for (int bits = 1; bits < 1 << n; bits++) {
            if (Integer.bitCount(bits) == k) {
                places += Integer.numberOfTrailingZeros(bits) + 1;
                ways++;
            }
        }
        BigInteger both = BigInteger.valueOf(places).gcd(BigInteger.valueOf(ways));
        return new BigInteger[] {BigInteger.valueOf(places).divide(both), BigInteger.valueOf(ways).divide(both)};
    }

    private static void seed() {
        begin(30, "THE SEED is v: what it was.");
        long[] was = {0L};
        rounds(1, 0, i -> {
            long v = i % 3 == 0 ? Long.MIN_VALUE + i : i % 3 == 1 ? Long.MAX_VALUE - i : -i;
            due("seed(" + v + ")", x.seed(v), was[0]);
            was[0] = v;
        });
    }

    private static BigInteger drawn = BigInteger.ZERO;

    private static int drawDepth() {
        BigInteger turn = BigInteger.ONE.shiftLeft(64);
        drawn = drawn.multiply(new BigInteger("6364136223846793005"))
            .add(new BigInteger("1442695040888963407")).mod(turn);
        return drawn.shiftRight(33).mod(BigInteger.valueOf(6)).intValue() + 1;
    }

    private static void ward() {
        begin(31, "how many BEDS have all CORNERS on in the end. (Nothing changes but THE SEED.)", HEAVY);
        lay(6, 3, 3, 3);
        drawn = BigInteger.ZERO;
        int[] seen = {0};
        rounds(2, 10, i -> {
            int m = 1 + i % 30;
            int whole = 0;
            for (int bed = 0; bed < m; bed++) {
                int a = drawDepth();
                int b = drawDepth();
                int c = drawDepth();
                int d = drawDepth();
                // If all hold in the end, they did with some of them off too: none slips on the way.
                whole += a >= b + d && 7 * b >= a + c && 7 * c >= b + d && 7 * d >= a + c ? 1 : 0;
            }
            due("ward(" + m + ")", x.ward(m), whole);
            due("count(4)", x.count(4), 6333);
            seen[0] += whole;
        });
        if (seen[0] == 0) {
            tell("no bed was whole: the run shows nothing");
        }
    }

    private static void wardsAndTheSeed() {
        begin(31, "(THE SEED, a long; 0 at first)", LOOSE);
        drawn = BigInteger.ZERO;
        rounds(3, 10, i -> {
            due("ward(30)", x.ward(30), 30);
            for (int draw = 0; draw < 120; draw++) {
                drawDepth();
            }
            due("ward(31)", x.ward(31 + i), OUTSIDE);
            due("seed(" + i + ")", x.seed(i), drawn.longValue());
            drawn = BigInteger.valueOf(i);
        });
    }

    // ---- slots

    private static void keep() {
        begin(32, "They are kept: how many CORNERS are on. UNKNOWN.", LOOSE);
        rounds(7, 10, i -> {
            due("set", x.set(i % 4, 1 + i % 6), 0);
            due("keep", x.keep(i % 2), 1);
            due("keep(2)", x.keep(2 + i), UNKNOWN);
            due("set to 0", x.set(i % 4, 0), 0);
            // Two acts, and the one that ended the round before; to keep is none.
            due("count(7)", x.count(7), i == 0 ? 2 : 3);
            due("again", x.again(i % 2), 1);
            due("set to 0", x.set(i % 4, 0), 0);
        });
    }

    private static void again() {
        begin(33, "They are as they were kept: how many CORNERS are on. UNKNOWN; STATE: none were kept.", LOOSE);
        lay(6, 5, 4, 3);
        due("again(1), not kept yet", x.again(1), STATE);
        due("keep(0)", x.keep(0), 4);
        due("wash()", x.wash(), 0);
        due("set(1, 0)", x.set(1, 0), 0);
        due("bend(2, 3)", x.bend(2, 3), 0);
        due("keep(1)", x.keep(1), 3);
        rounds(12, 10, i -> {
            due("again(0)", x.again(0), 4);
            due("undo() behind it", x.undo(), STATE);
            due("count(4)", x.count(4), 6543);
            due("count(5)", x.count(5), 0);
            due("count(6)", x.count(6), 9999);
            due("set(3, 6)", x.set(3, 6), 0);
            due("again(1)", x.again(1), 3);
            due("count(7)", x.count(7), 0);
            due("count(4)", x.count(4), 6043);
            due("count(5)", x.count(5), 30);
            due("count(6)", x.count(6), 8888);
            due("again(2)", x.again(2 + i), UNKNOWN);
        });
    }

    private static void count() {
        begin(34, "0 letters of THE TEXT, 1 STIFF, 2 LOOKS, 3 CORNERS that are on (bits), 4 DEPTHS (four figures),"
            + " 5 BENDS (four figures), 6 SLACKS (four figures), 7 ACTS in the row, 8 PULL of all EDGES together."
            + " OUTSIDE.", "B399991234L05");
        due("bend(2, 1)", x.bend(2, 1), 0);
        lay(4, 3, 2, 0);
        // 4, 3, 1 count: 3 (7 - 1) and 3 (4 - 2); 1 is pulled 24 and bears 27.
        int[] want = {13, 3, 1, 7, 4320, 10, 1234, 4, 24};
        rounds(10, 13, i -> {
            for (int what = 0; what <= 8; what++) {
                due("count(" + what + ")", x.count(what), want[what]);
            }
            due("count(9)", x.count(9 + i), OUTSIDE);
        });
    }

    // ---- the room

    private interface Asked {
        long of(FourthCorner y, int i);
    }

    /**
     * Some 7.3 million fields and elements are there for all calls of a run. The rows of a search are 3 times 2401, and
     * nothing else is large: an object and 512 calls of one kind stay far below 16000 elements of 4 bytes.
     */
    private static void room() {
        promise = 1;
        says = "An object is used for at most 512 calls";
        Asked[] dear = {(y, i) -> y.fewest(1 + i % 6), (y, i) -> y.fewestAt(1 + i % 6, i % 5),
            (y, i) -> y.byTwo(1 + i % 6), (y, i) -> y.rows(1 + i % 6), (y, i) -> y.rowOf(1 + i % 6),
            (y, i) -> y.deepest(), (y, i) -> y.bending(1 + i % 6), (y, i) -> y.washes(1 + i % 6),
            (y, i) -> y.orders(1111 + i % 6, i % 2), (y, i) -> y.creases(1111 + i % 6),
            (y, i) -> y.would(6660 + i % 7, i % 3), (y, i) -> y.judge(4, 2112131), (y, i) -> y.ward(30),
            (y, i) -> y.cross(1 + i % 5, i % 3), (y, i) -> y.drum(i % 4, 8, 1230123), (y, i) -> y.tries(true),
            (y, i) -> y.likely(i % 4, false), (y, i) -> y.drawer(12, 5, true), (y, i) -> y.set(0, i % 7),
            (y, i) -> y.wash(), (y, i) -> y.turn(), (y, i) -> y.keep(i % 2), (y, i) -> y.bend(0, i % 4),
            (y, i) -> y.undo(), (y, i) -> y.write(66), (y, i) -> y.bed(), (y, i) -> y.fault(), (y, i) -> y.seed(i),
            (y, i) -> y.count(i % 9), (y, i) -> y.again(i % 2)};
        if (!(ManagementFactory.getThreadMXBean() instanceof com.sun.management.ThreadMXBean meter)
            || !meter.isThreadAllocatedMemorySupported() || !meter.isThreadAllocatedMemoryEnabled()) {
            System.out.println("this machine does not tell what is made: the room was not looked at");
            return;
        }
        long[] bytes = new long[dear.length];
        long self = Thread.currentThread().getId();
        // The first time round classes are still being brought in.
        for (int round = 0; round < 2; round++) {
            for (int kind = 0; kind < dear.length; kind++) {
                long before = meter.getThreadAllocatedBytes(self);
                FourthCorner y = new FourthCorner();
                for (int i = 0; i < CALLS; i++) {
                    dear[kind].of(y, i);
                }
                bytes[kind] = meter.getThreadAllocatedBytes(self) - before;
            }
        }
        for (int kind = 0; kind < dear.length; kind++) {
            if (bytes[kind] > 64000) {
                tell("512 calls of kind " + kind + " of room() make " + bytes[kind] + " bytes");
            }
        }
    }

    public static void main(String[] args) throws Exception {
        if (Files.isRegularFile(DOCUMENT)) {
            document = Files.readString(DOCUMENT, StandardCharsets.UTF_8).replaceAll("\\s+", " ");
        }
        Runnable[] runs = {
            FourthCornerLongRuns::newObject, FourthCornerLongRuns::write, FourthCornerLongRuns::wipe,
            FourthCornerLongRuns::fault, FourthCornerLongRuns::faultThatStays, FourthCornerLongRuns::bed,
            FourthCornerLongRuns::bedRefused, FourthCornerLongRuns::corner, FourthCornerLongRuns::edge,
            FourthCornerLongRuns::would, FourthCornerLongRuns::set, FourthCornerLongRuns::bend,
            FourthCornerLongRuns::wash, FourthCornerLongRuns::turn, FourthCornerLongRuns::undo,
            FourthCornerLongRuns::judge, FourthCornerLongRuns::rows, FourthCornerLongRuns::rowOf,
            FourthCornerLongRuns::deepest, FourthCornerLongRuns::fewest, FourthCornerLongRuns::fewestAt,
            FourthCornerLongRuns::byTwo, FourthCornerLongRuns::orders, FourthCornerLongRuns::creases,
            FourthCornerLongRuns::bending, FourthCornerLongRuns::bendingOfLikeOnes,
            FourthCornerLongRuns::washes, FourthCornerLongRuns::likely,
            FourthCornerLongRuns::tries, FourthCornerLongRuns::drum, FourthCornerLongRuns::cross,
            FourthCornerLongRuns::drawer, FourthCornerLongRuns::seed, FourthCornerLongRuns::ward,
            FourthCornerLongRuns::wardsAndTheSeed, FourthCornerLongRuns::keep, FourthCornerLongRuns::again,
            FourthCornerLongRuns::count};
        for (Runnable run : runs) {
            run.run();
        }
        for (int number = 1; number <= 34; number++) {
            if (!promises.contains(number)) {
                tell("promise " + number + " has no run");
            }
        }
        room();
        if (wrong != 0) {
            System.out.println(wrong + " answers are not as due");
            System.exit(1);
        }
        System.out.println("all " + runs.length + " runs of " + CALLS + " calls are as due");
    }
}
