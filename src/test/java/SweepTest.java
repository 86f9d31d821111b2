import java.util.Arrays;
import java.util.TreeSet;

/**
 * Every call with every choice of numbers at, just within and just without their bounds, all together, in states that are
 * edges themselves; each answer, and what is so behind it, is held against the second telling of the document.
 */
public final class SweepTest {
    private static final int MIN = Integer.MIN_VALUE, MAX = Integer.MAX_VALUE;
    private static final int ADD = 0, WIPE = 1, LOTS = 2, NOISE = 3, LOUDER = 4, HEAR = 5, BOUND = 6, UNDO = 7, TOLD = 8,
        ROW = 9, AT = 10, KEEP = 19;

    /** The bounds of each call's numbers, in the order of the face; sizes that hang on the state are the greatest. */
    private static final int[][][] BOUNDS = {
        {{0, 4}, {-100, 100}}, {{0, 4}}, {{0, 4}, {1, 128}, {1, 999999}}, {{0, 4}, {1, 100}, {1, 999999}},
        {{0, 4}, {1, 9}, {1, 9}}, {{0, 3}, {0, 127}, {1, 128}}, {{0, 1}, {0, 99999, 1, 5}}, {}, {{0, 12}}, {{0, 4}, {0, 5}},
        {{0, 4}, {0, 127, 6, 16}}, {{0, 4}, {0, 15, 1, 3}, {0, 7}}, {{0, 4}, {0, 15, 1, 3}},
        {{0, 4}, {0, 15, 3, 6}, {0, 15, 3, 6}}, {{0, 319, 4, 78}}, {{64, 383, 73, 329}}, {{64, 383, 73, 329}, {0, 63, 3, 14}},
        {{0, 3}, {-15, 15, -1, 1}}, {{0, 115, 4, 12}, {0, 2}}, {{0, 1}}, {{0, 1}}};

    private static final int[][][] STATES = {
        {},
        // Short rows, one number short of a window or of two, what is heard, both bounds moved, one image kept.
        {{LOTS, 0, 15, 7}, {LOTS, 1, 8, 9}, {LOTS, 2, 7, 3}, {KEEP, 1}, {HEAR, 0, 0, 15}, {BOUND, 0, 0}, {BOUND, 1, 5}},
        // Full rows, nothing can be undone, both images kept.
        {{LOTS, 0, 128, 1}, {LOTS, 1, 128, 2}, {LOTS, 2, 127, 3}, {LOTS, 3, 128, 1}, {LOTS, 4, 128, 1}, {KEEP, 0}, {KEEP, 1}},
        // As many keys and votes as can be: 0 alone in pieces 0, 3 and what is heard, FLOOR 0, REACH 5; the past is full.
        {{LOTS, 0, 128, 1}, {LOUDER, 0, 1, 9}, {LOUDER, 0, 1, 9}, {LOUDER, 0, 1, 9}, {LOTS, 3, 128, 1}, {LOUDER, 3, 1, 9},
            {LOUDER, 3, 1, 9}, {LOUDER, 3, 1, 9}, {HEAR, 0, 0, 128}, {BOUND, 0, 0}, {BOUND, 1, 5}},
        // Everything wiped again, and one undone.
        {{LOTS, 0, 128, 1}, {ADD, 4, 100}, {WIPE, 0}, {NOISE, 4, 100, 47}, {WIPE, 4}, {UNDO}}};

    private static int wrong = 0;
    private static int asked = 0;

    private SweepTest() {
    }

    private static int[] edges(int[] bounds) {
        TreeSet<Integer> all = new TreeSet<>(Arrays.asList(MIN, MIN + 1, MAX - 1, MAX));
        for (int bound : bounds) {
            all.addAll(Arrays.asList(bound - 1, bound, bound + 1));
        }
        return all.stream().mapToInt(Integer::intValue).toArray();
    }

    private static int given(int[] call, int i) {
        return i < call.length ? call[i] : 0;
    }

    private static boolean both(SoundPictures x, Told told, int state, int[] ahead, int... call) {
        int want = told.answer(call[0], given(call, 1), given(call, 2), given(call, 3));
        int got = Told.ask(x, call[0], given(call, 1), given(call, 2), given(call, 3));
        asked++;
        if (got != want) {
            wrong++;
            System.out.println("state " + state + (ahead == call ? "" : ", behind " + tell(ahead)) + ": " + tell(call)
                + " answered " + got + ", due is " + want);
        }
        return got == want;
    }

    private static String tell(int[] call) {
        return Told.NAMES[call[0]] + Arrays.toString(Arrays.copyOfRange(call, 1, call.length));
    }

    private static void tryOne(int state, int... call) {
        SoundPictures x = new SoundPictures();
        Told told = new Told();
        boolean holds = true;
        for (int[] ahead : STATES[state]) {
            holds = both(x, told, state, ahead, ahead) && holds;
        }
        holds = holds && both(x, told, state, call, call);
        if (holds && (call[0] <= UNDO || call[0] >= KEEP)) {
            compareRows(x, told, state, call);
            both(x, told, state, call, UNDO);
            compareRows(x, told, state, call);
        }
    }

    private static void compareRows(SoundPictures x, Told told, int state, int[] call) {
        int[] whats = {0, 1, 12};
        for (int what : whats) {
            both(x, told, state, call, TOLD, what);
        }
        for (int piece = 0; piece <= 4; piece++) {
            both(x, told, state, call, ROW, piece, 0);
            both(x, told, state, call, AT, piece, 0);
            both(x, told, state, call, AT, piece, told.m.rows.get(piece).size() - 1);
        }
    }

    private static void sweep(int state, int call) {
        int[][] bounds = BOUNDS[call];
        int[] first = bounds.length > 0 ? edges(bounds[0]) : new int[] {0};
        int[] second = bounds.length > 1 ? edges(bounds[1]) : new int[] {0};
        int[] third = bounds.length > 2 ? edges(bounds[2]) : new int[] {0};
        for (int a : first) {
            for (int b : second) {
                for (int c : third) {
                    if (wrong < 20) {
                        tryOne(state, Arrays.copyOf(new int[] {call, a, b, c}, 1 + bounds.length));
                    }
                }
            }
        }
    }

    public static void main(String[] args) {
        for (int state = 0; state < STATES.length; state++) {
            for (int call = 0; call < BOUNDS.length; call++) {
                sweep(state, call);
            }
        }
        System.out.println(wrong == 0 ? "sweep: " + asked + " answers are as due" : "sweep: answers that are not as due: " + wrong);
        if (wrong != 0) {
            System.exit(1);
        }
    }
}
