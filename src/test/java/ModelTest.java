import java.util.ArrayList;
import java.util.Arrays;
import java.util.List;
import java.util.Random;

/** Long runs of calls by lots, each answer held against a second, slow telling of the document that keeps nothing ready. */
public final class ModelTest {
    private static final int RUNS = 600;
    private static final int CALLS = 512;
    private static final int[] ODD = {Integer.MIN_VALUE, Integer.MIN_VALUE + 1, -1000000, -101, -16, -2, -1, 6, 16, 63, 128,
        129, 384, 1000000, Integer.MAX_VALUE - 1, Integer.MAX_VALUE};

    private ModelTest() {
    }

    /** How often each call comes, of a hundred and some; those that change all at once come seldom, so that rows grow. */
    private static final int[] WEIGHTS = {14, 2, 6, 3, 3, 5, 4, 4, 14, 8, 3, 5, 5, 6, 5, 5, 6, 8, 8, 2, 2};
    private static final int[][][] BOUNDS = {
        {{0, 4}, {-100, 100}}, {{0, 4}}, {{0, 4}, {1, 128}, {1, 999999}}, {{0, 4}, {1, 100}, {1, 999999}},
        {{0, 4}, {1, 9}, {1, 9}}, {{0, 3}, {0, 127}, {1, 128}}, {{0, 1}, {0, 6}}, {}, {{0, 12}}, {{0, 4}, {0, 5}},
        {{0, 4}, {0, 127}}, {{0, 4}, {0, 15}, {0, 7}}, {{0, 4}, {0, 15}}, {{0, 4}, {0, 15}, {0, 15}}, {{0, 80}},
        {{64, 383}}, {{64, 383}, {0, 5}}, {{0, 3}, {-15, 15}}, {{0, 20}, {0, 2}}, {{0, 1}}, {{0, 1}}};

    private static int pickCall(Random lots) {
        int all = Arrays.stream(WEIGHTS).sum();
        int left = lots.nextInt(all);
        int call = 0;
        while (left >= WEIGHTS[call]) {
            left -= WEIGHTS[call];
            call++;
        }
        return call;
    }

    private static int pick(Random lots, int least, int greatest, int odd) {
        if (lots.nextInt(100) < odd) {
            return ODD[lots.nextInt(ODD.length)];
        }
        int how = lots.nextInt(20);
        return how == 0 ? least : how == 1 ? greatest : how == 2 ? least - 1 : how == 3 ? greatest + 1
            : least + lots.nextInt(greatest - least + 1);
    }

    private static int[] pickArguments(Random lots, int call, Told told) {
        int[] arguments = new int[3];
        int[][] bounds = BOUNDS[call];
        for (int i = 0; i < bounds.length; i++) {
            arguments[i] = pick(lots, bounds[i][0], bounds[i][1], 2);
        }
        if (call == 0 && lots.nextInt(2) == 0) {
            arguments[1] = lots.nextInt(3) * 100 - 100;
        }
        if (call == 2 && lots.nextInt(2) == 0) {
            // Few seeds and long rows, so that pieces are alike and votes are many.
            arguments[1] = 64 + lots.nextInt(65);
            arguments[2] = 1 + lots.nextInt(3);
        }
        if (call == 6 && arguments[0] == 0 && lots.nextInt(2) == 0) {
            arguments[1] = pick(lots, 0, new int[] {1, 500, 4000, 99999}[lots.nextInt(4)], 5);
        }
        if ((call == 15 || call == 16) && lots.nextInt(2) == 0 && !told.m.ledger().isEmpty()) {
            List<Integer> keys = new ArrayList<>(told.m.ledger().keySet());
            arguments[0] = keys.get(lots.nextInt(keys.size()));
        }
        return arguments;
    }

    /** Runs ahead of a burst of the same call, so that rows fill and single windows come to be. */
    private static boolean runOnce(int run) {
        Random lots = new Random(run);
        SoundPictures x = new SoundPictures();
        Told told = new Told();
        StringBuilder tale = new StringBuilder();
        int call = 0;
        int burst = 0;
        int[] arguments = new int[3];
        for (int i = 0; i < CALLS; i++) {
            if (burst == 0) {
                call = pickCall(lots);
                arguments = pickArguments(lots, call, told);
                burst = call == 0 && lots.nextInt(8) == 0 ? lots.nextInt(40) : 0;
            } else {
                burst--;
                arguments[1] = lots.nextInt(4) == 0 ? -arguments[1] : arguments[1];
            }
            int want = told.answer(call, arguments[0], arguments[1], arguments[2]);
            int got = Told.ask(x, call, arguments[0], arguments[1], arguments[2]);
            tale.append(call).append(Arrays.toString(arguments)).append(' ');
            if (got != want) {
                System.out.println("run " + run + ", call " + i + ": answered " + got + ", due is " + want + ": " + tale);
                return false;
            }
        }
        return true;
    }

    public static void main(String[] args) {
        int wrong = 0;
        for (int run = 0; run < RUNS && wrong < 5; run++) {
            if (!runOnce(run)) {
                wrong++;
            }
        }
        System.out.println(wrong == 0 ? "model: " + RUNS + " runs are as due" : "model: runs that are not as due: " + wrong);
        if (wrong != 0) {
            System.exit(1);
        }
    }
}
